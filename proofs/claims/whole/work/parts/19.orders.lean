/-! the class's text: orders -/
abbrev RS : Type := Nat × Nat × Int32 × (Nat → Int32) × (Nat → Int32) × (Nat → Int32)

theorem ix_ofT {x : Int32} {N : Nat} (h0 : 0 ≤ x.toInt) (h : x.toInt < N) : vp_in x N := vp_in_iff.mpr ⟨h0, h⟩
def fX4_readOrder (n o q : Nat) (u : Int32) (b ks fs ss : Nat → Int32) : Int32 × (RS) :=
  let r1 : Int32 := fX4_here b n q
  let r2 : Int32 := fX4_isKind r1
  if r2 = 0 then
    (0, (o, q, u, ks, fs, ss))
  else
    if (nI o) < 40 then
      let x6 : Int32 := (if r1 = 112 then 1 else (if r1 = 108 then 1 else 0))
      let r8 : Int32 × (Nat × Int32) := fX4_readNumber b n (q + 1) u x6
      if r8.1 = 0 then
        (0, (o, r8.2.1, r8.2.2, ks, fs, ss))
      else
        let r10 : Int32 := fX4_hasSecond r1
        if r10 = 0 then
          let r13 : Int32 := fX4_here b n (sk b n r8.2.1)
          if r13 = 59 then
            (1, (o + 1, sk b n r8.2.1 + 1, r8.2.2, (upd ks o r1), (upd fs o r8.2.2), (upd ss o r8.2.2)))
          else
            (0, (o, sk b n r8.2.1, r8.2.2, ks, fs, ss))
        else
          let r15 : Int32 × (Nat × Int32) := fX4_readNumber b n r8.2.1 r8.2.2 0
          if r15.1 = 0 then
            (0, (o, r15.2.1, r15.2.2, ks, fs, ss))
          else
            let r18 : Int32 := fX4_here b n (sk b n r15.2.1)
            if r18 = 59 then
              (1, (o + 1, sk b n r15.2.1 + 1, r15.2.2, (upd ks o r1), (upd fs o r8.2.2), (upd ss o r15.2.2)))
            else
              (0, (o, sk b n r15.2.1, r15.2.2, ks, fs, ss))
    else
      (0, (o, q, u, ks, fs, ss))
theorem rn_gt {b : Nat → Int32} {n q : Nat} {u sg : Int32} (hq : q ≤ n) (h : ¬ (fX4_readNumber b n q u sg).1 = 0) : q + 1 ≤ (fX4_readNumber b n q u sg).2.1 := by
  have h0 := sk_ge b n q
  have key : ∀ (ng : Int32) (k : Nat), q ≤ k → ¬ fX4_isFigure (fX4_here b n k) = 0 → q + 1 ≤ (dgT b n ng 4 k 0).2.1 := by
    intro ng k hk c
    rw [show dgT b n ng 4 k 0 = dgT b n ng 3 (k + 1) ((10 * 0) + fX4_here b n k - 48) from if_neg c]
    have := (dgT_le (b := b) (ng := ng) 3 (k + 1) ((10 * 0) + fX4_here b n k - 48) (fg_lt c)).2.1
    omega
  generalize hz : fX4_readNumber b n q u sg = z at h ⊢
  unfold fX4_readNumber at hz
  simp only [] at hz
  by_cases c1 : sg = 0
  · rw [if_pos c1] at hz
    by_cases c2 : fX4_isFigure (fX4_here b n (sk b n q)) = 0
    · rw [if_pos c2] at hz; subst hz; exact absurd rfl h
    · rw [if_neg c2] at hz; subst hz; exact key 0 _ h0 c2
  · rw [if_neg c1] at hz
    by_cases c3 : fX4_here b n (sk b n q) = 45
    · rw [if_pos c3] at hz
      by_cases c2 : fX4_isFigure (fX4_here b n (sk b n q + 1)) = 0
      · rw [if_pos c2] at hz; subst hz; exact absurd rfl h
      · rw [if_neg c2] at hz; subst hz; exact key 1 _ (by omega) c2
    · rw [if_neg c3] at hz
      by_cases c2 : fX4_isFigure (fX4_here b n (sk b n q)) = 0
      · rw [if_pos c2] at hz; subst hz; exact absurd rfl h
      · rw [if_neg c2] at hz; subst hz; exact key 0 _ h0 c2
theorem ro_le (n o q : Nat) (u : Int32) (b ks fs ss : Nat → Int32) (hq : q ≤ n) : (fX4_readOrder n o q u b ks fs ss).2.2.1 ≤ n ∧ (fX4_readOrder n o q u b ks fs ss).2.1 ≤ o + 1 ∧ ((fX4_readOrder n o q u b ks fs ss).1 = 0 ∨ (fX4_readOrder n o q u b ks fs ss).1 = 1) ∧ (¬ (fX4_readOrder n o q u b ks fs ss).1 = 0 → q + 3 ≤ (fX4_readOrder n o q u b ks fs ss).2.2.1 ∧ (fX4_readOrder n o q u b ks fs ss).2.1 = o + 1) := by
  generalize hz : fX4_readOrder n o q u b ks fs ss = z
  unfold fX4_readOrder at hz
  simp only [] at hz
  by_cases c1 : fX4_isKind (fX4_here b n q) = 0
  · rw [if_pos c1] at hz; subst hz; exact ⟨hq, Nat.le_succ o, Or.inl rfl, fun h => absurd rfl h⟩
  · rw [if_neg c1] at hz
    have hq1 : q + 1 ≤ n := ik_lt c1
    by_cases c2 : (nI o) < 40
    · rw [if_pos c2] at hz
      generalize (if fX4_here b n q = 112 then (1 : Int32) else if fX4_here b n q = 108 then 1 else 0) = sg at hz
      have n1 := rn_le (b := b) (u := u) (sg := sg) hq1
      by_cases c3 : (fX4_readNumber b n (q + 1) u sg).1 = 0
      · rw [if_pos c3] at hz; subst hz; exact ⟨n1.1, Nat.le_succ o, Or.inl rfl, fun h => absurd rfl h⟩
      · rw [if_neg c3] at hz
        have g1 := rn_gt hq1 c3
        generalize hr : fX4_readNumber b n (q + 1) u sg = r at hz n1 c3 g1
        by_cases c4 : fX4_hasSecond (fX4_here b n q) = 0
        · rw [if_pos c4] at hz
          have s1 := sk_le (b := b) n1.1
          have s2 := sk_ge b n r.2.1
          by_cases c5 : fX4_here b n (sk b n r.2.1) = 59
          · rw [if_pos c5] at hz; subst hz
            exact ⟨hr_lt (fun z => absurd (c5.symm.trans z) (by decide)), Nat.le_refl _, Or.inr rfl, fun _ => ⟨by show q + 3 ≤ sk b n r.2.1 + 1; omega, rfl⟩⟩
          · rw [if_neg c5] at hz; subst hz; exact ⟨s1, Nat.le_succ o, Or.inl rfl, fun h => absurd rfl h⟩
        · rw [if_neg c4] at hz
          have n2 := rn_le (b := b) (u := r.2.2) (sg := 0) n1.1
          by_cases c6 : (fX4_readNumber b n r.2.1 r.2.2 0).1 = 0
          · rw [if_pos c6] at hz; subst hz; exact ⟨n2.1, Nat.le_succ o, Or.inl rfl, fun h => absurd rfl h⟩
          · rw [if_neg c6] at hz
            have s1 := sk_le (b := b) n2.1
            have s2 := sk_ge b n (fX4_readNumber b n r.2.1 r.2.2 0).2.1
            by_cases c5 : fX4_here b n (sk b n (fX4_readNumber b n r.2.1 r.2.2 0).2.1) = 59
            · rw [if_pos c5] at hz; subst hz
              exact ⟨hr_lt (fun z => absurd (c5.symm.trans z) (by decide)), Nat.le_refl _, Or.inr rfl, fun _ => ⟨by show q + 3 ≤ sk b n (fX4_readNumber b n r.2.1 r.2.2 0).2.1 + 1; have := n2.2.1; omega, rfl⟩⟩
            · rw [if_neg c5] at hz; subst hz; exact ⟨s1, Nat.le_succ o, Or.inl rfl, fun h => absurd rfl h⟩
    · rw [if_neg c2] at hz; subst hz; exact ⟨hq, Nat.le_succ o, Or.inl rfl, fun h => absurd rfl h⟩
abbrev rX4_readOrder : Room := { frames := 3, cells := 0, slots := 0, locals := 64 }
theorem mm_X4_readOrder_1 : Cond.fieldLink RX4 35 "GaugeBounds$Text" "orders" "I" ∈ wsX4_readOrder := List.mem_of_getElem? (i := 1) rfl
theorem mm_X4_readOrder_2 : Cond.fieldLink RX4 38 "GaugeBounds$Text" "place" "I" ∈ wsX4_readOrder := List.mem_of_getElem? (i := 2) rfl
theorem mm_X4_readOrder_3 : Cond.fieldLink RX4 60 "GaugeBounds$Text" "number" "I" ∈ wsX4_readOrder := List.mem_of_getElem? (i := 3) rfl
theorem mm_X4_readOrder_4 : Cond.fieldLink RX4 15 "GaugeBounds$Text" "kinds" "[I" ∈ wsX4_readOrder := List.mem_of_getElem? (i := 4) rfl
theorem mm_X4_readOrder_5 : Cond.fieldLink RX4 19 "GaugeBounds$Text" "firsts" "[I" ∈ wsX4_readOrder := List.mem_of_getElem? (i := 5) rfl
theorem mm_X4_readOrder_6 : Cond.fieldLink RX4 22 "GaugeBounds$Text" "seconds" "[I" ∈ wsX4_readOrder := List.mem_of_getElem? (i := 6) rfl
theorem ii_X4_readOrder_X4 : ∀ w ∈ wsX40, w ∈ wsX4_readOrder := fun _ h => List.mem_cons_of_mem _ (List.mem_append_right _ (h))
theorem qvX4_readOrder : yX4_readOrder.cls = RX4 ∧ yX4_readOrder.cls ≠ "java/lang/invoke/MethodHandle" ∧ yX4_readOrder.cls ≠ "java/lang/invoke/VarHandle" ∧ (parseMethodDescriptor yX4_readOrder.desc).map (fun d => d.parameters.length) = some 0 := by decide +kernel
set_option maxHeartbeats 4000000 in
set_option maxRecDepth 100000 in
theorem kX4_readOrder (l : Launch) (E : gEnv) (t : Nat → Nat) (n o q : Nat) (u : Int32) (b ks fs ss : Nat → Int32) (hn : n ≤ 120) (hq : q ≤ n) (ho : o ≤ 40) : gMi l E yX4_readOrder wsX4_readOrder rX4_readOrder [.ref (t 0)] (wTx E t n o q u b ks fs ss) (fX4_readOrder n o q u b ks fs ss).1 (wTx E t n ((fX4_readOrder n o q u b ks fs ss).2.1) ((fX4_readOrder n o q u b ks fs ss).2.2.1) ((fX4_readOrder n o q u b ks fs ss).2.2.2.1) b ((fX4_readOrder n o q u b ks fs ss).2.2.2.2.1) ((fX4_readOrder n o q u b ks fs ss).2.2.2.2.2.1) ((fX4_readOrder n o q u b ks fs ss).2.2.2.2.2.2)) := by
  refine gMz_of (cc := cX4_readOrder) (maxL := 3) (ret := (some .boolean)) (by decide) rfl rfl (Nat.le_of_ble_eq_true rfl) (zb (ro_le n o q u b ks fs ss hq).2.2.1) ?_
  intro p e s m args below meth c A Q ls hB hQ
  obtain ⟨hx, hb, hml, hown, hts, hK, hP, hD, hA, hS, hl⟩ := hB
  have hown : s.vm.findClass RX4 = some m.cls := hown
  have hP : va_P E.1 vwCl [(t 0, .inr (4, [.ref (t 1), .int (nI n), .ref (t 2), .ref (t 3), .ref (t 4), .int (nI o), .int (nI q), .int u])), (t 1, .inl (eB E, 120, .inl b)), (t 2, .inl (eI E, 40, .inl ks)), (t 3, .inl (eI E, 40, .inl fs)), (t 4, .inl (eI E, 40, .inl ss))] s.heap := hP
  have hD : va_D A [(t 0, .inr (4, [.ref (t 1), .int (nI n), .ref (t 2), .ref (t 3), .ref (t 4), .int (nI o), .int (nI q), .int u])), (t 1, .inl (eB E, 120, .inl b)), (t 2, .inl (eI E, 40, .inl ks)), (t 3, .inl (eI E, 40, .inl fs)), (t 4, .inl (eI E, 40, .inl ss))] := hD
  have hl : lv_has ls 3 [(0, .ref (t 0))] := hl
  refine lv_aload_n (pc := 0) hx hb dX4_readOrder_0 rfl (lv_at hl 0 rfl) ?_
  obtain ⟨r1, er1⟩ : ∃ z : Int32, fX4_here b n q = z := ⟨_, rfl⟩
  have hr1 := kX4_here l E t n o q u b ks fs ss hn hq
  rw [er1] at hr1
  refine gcVi (pc := 1) (w1 := [(t 0, .inr (4, [.ref (t 1), .int (nI n), .ref (t 2), .ref (t 3), .ref (t 4), .int (nI o), .int (nI q), .int u])), (t 1, .inl (eB E, 120, .inl b)), (t 2, .inl (eI E, 40, .inl ks)), (t 3, .inl (eI E, 40, .inl fs)), (t 4, .inl (eI E, 40, .inl ss))]) (pre := []) (post := []) (As := []) (rest := []) (q0 := 0) ⟨hx, hb, hml, hown, hts⟩ hr1 (cwV 0 hts gX4_readOrder_X4_here rfl rfl rfl qvX4_here ⟨Nat.le_of_ble_eq_true rfl, Nat.le_of_ble_eq_true rfl⟩) hK hP hD hS hA rfl rfl rfl rfl rfl hl.1 rfl (Nat.le_of_ble_eq_true rfl) dX4_readOrder_1 ⟨Nat.zero_le _, Nat.zero_le _⟩ (fun H locs hP hD hS => ?_)
  refine lv_istore_n (lv' := [(1, .int r1), (0, .ref (t 0))]) (pc := 4) hx hb dX4_readOrder_4 rfl hl (by decide) rfl (fun ls hl => ?_)
  refine lv_iload_n (pc := 5) hx hb dX4_readOrder_5 rfl (lv_at hl 0 rfl) ?_
  obtain ⟨r2, er2⟩ : ∃ z : Int32, fX4_isKind r1 = z := ⟨_, rfl⟩
  have hr2 := kX4_isKind l E r1
  rw [er2] at hr2
  refine gcSi (pc := 6) (As := [.int r1]) (rest := []) ⟨hx, hb, hml, hown, hts⟩ hr2 (cwS 1 hts gX4_readOrder_X4_isKind rfl rfl rfl qsX4_isKind ⟨Nat.le_of_ble_eq_true rfl, Nat.le_of_ble_eq_true rfl⟩) hK hP hD hS hA rfl hl.1 rfl (Nat.le_of_ble_eq_true rfl) dX4_readOrder_6 ⟨Nat.zero_le _, Nat.zero_le _⟩ (fun H locs hP hD hS => ?_)
  refine lv_if_eq (tgt := 21) (pc := 9) hx hb dX4_readOrder_9 (by decide) (fun c_3 => ?_) (fun c_3 => ?_)
  · refine lv_iconst (v := 0) (pc := 21) hx hb dX4_readOrder_21 rfl ?_
    subst er2
    subst er1
    have hfn : fX4_readOrder n o q u b ks fs ss = _ := if_pos c_3
    rw [hfn] at hQ
    exact hQ _ _ _ _ _ rfl hP hD hS dX4_readOrder_22
  · refine lv_aload_n (pc := 12) hx hb dX4_readOrder_12 rfl (lv_at hl 1 rfl) ?_
    refine g_get (v := .int (nI o)) (pc := 13) hx hb hts ii_X4_readOrder_X4 hown hK.1 hP 0 rfl rfl 5 (by decide) ⟨rfl, rfl, rfl⟩ mm_X4_readOrder_1 rfl dX4_readOrder_13 ?_
    refine lv_bipush (v := 40) (pc := 16) hx hb dX4_readOrder_16 rfl ?_
    refine lv_icmp_lt (tgt := 23) (pc := 18) hx hb dX4_readOrder_18 (by decide) (fun c_4 => ?_) (fun c_4 => ?_)
    · refine lv_aload_n (pc := 23) hx hb dX4_readOrder_23 rfl (lv_at hl 1 rfl) ?_
      refine lv_dup (pc := 24) hx hb dX4_readOrder_24 rfl ?_
      refine g_get (v := .int (nI q)) (pc := 25) hx hb hts ii_X4_readOrder_X4 hown hK.1 hP 0 rfl rfl 6 (by decide) ⟨rfl, rfl, rfl⟩ mm_X4_readOrder_2 rfl dX4_readOrder_25 ?_
      refine lv_iconst (v := 1) (pc := 28) hx hb dX4_readOrder_28 rfl ?_
      refine lv_iadd (pc := 29) hx hb dX4_readOrder_29 ?_
      rw [nI_1 q]
      refine g_put (w1 := [(t 0, .inr (4, [.ref (t 1), .int (nI n), .ref (t 2), .ref (t 3), .ref (t 4), .int (nI o), .int (nI (q + 1)), .int u])), (t 1, .inl (eB E, 120, .inl b)), (t 2, .inl (eI E, 40, .inl ks)), (t 3, .inl (eI E, 40, .inl fs)), (t 4, .inl (eI E, 40, .inl ss))]) (pc := 30) hx hb hts ii_X4_readOrder_X4 tyX4 tyX4_ok nmX4 hown hK.1 hP hD hS 0 rfl rfl 6 (by decide) ⟨rfl, rfl, rfl⟩ mm_X4_readOrder_2 rfl rfl rfl rfl (Nat.le_of_ble_eq_true rfl) rfl dX4_readOrder_30 (fun H locs hP hD hS => ?_)
      refine lv_aload_n (pc := 33) hx hb dX4_readOrder_33 rfl (lv_at hl 1 rfl) ?_
      refine lv_iload_n (pc := 34) hx hb dX4_readOrder_34 rfl (lv_at hl 0 rfl) ?_
      refine lv_bipush (v := 112) (pc := 35) hx hb dX4_readOrder_35 rfl ?_
      have J_7 : ∀ (H : Heap) (locs : List Loc) (ls : Array Slot) (x6 : Int32), (if r1 = 112 then 1 else (if r1 = 108 then 1 else 0)) = x6 → va_P E.1 vwCl [(t 0, .inr (4, [.ref (t 1), .int (nI n), .ref (t 2), .ref (t 3), .ref (t 4), .int (nI o), .int (nI (q + 1)), .int u])), (t 1, .inl (eB E, 120, .inl b)), (t 2, .inl (eI E, 40, .inl ks)), (t 3, .inl (eI E, 40, .inl fs)), (t 4, .inl (eI E, 40, .inl ss))] H → va_D A [(t 0, .inr (4, [.ref (t 1), .int (nI n), .ref (t 2), .ref (t 3), .ref (t 4), .int (nI o), .int (nI (q + 1)), .int u])), (t 1, .inl (eB E, 120, .inl b)), (t 2, .inl (eI E, 40, .inl ks)), (t 3, .inl (eI E, 40, .inl fs)), (t 4, .inl (eI E, 40, .inl ss))] → va_S A s.heap H locs → lv_has ls 3 [(0, .ref (t 0)), (1, .int r1)] → W p l e rX4_readOrder s m args below meth c H locs 0 0 Q (F0 m 51 ls [.int x6, .ref (t 0)]) := by
        intro H locs ls x6 ex6 hP hD hS hl
        obtain ⟨r8, er8⟩ : ∃ z : Int32 × (Nat × Int32), fX4_readNumber b n (q + 1) u x6 = z := ⟨_, rfl⟩
        have hr8 := kX4_readNumber l E t n o (q + 1) u b ks fs ss x6 hn (by subst er2; subst er1; exact ik_lt c_3)
        rw [er8] at hr8
        refine gcVi (pc := 51) (w1 := [(t 0, .inr (4, [.ref (t 1), .int (nI n), .ref (t 2), .ref (t 3), .ref (t 4), .int (nI o), .int (nI r8.2.1), .int r8.2.2])), (t 1, .inl (eB E, 120, .inl b)), (t 2, .inl (eI E, 40, .inl ks)), (t 3, .inl (eI E, 40, .inl fs)), (t 4, .inl (eI E, 40, .inl ss))]) (pre := []) (post := []) (As := [.int x6]) (rest := []) (q0 := 0) ⟨hx, hb, hml, hown, hts⟩ hr8 (cwV 1 hts gX4_readOrder_X4_readNumber rfl rfl rfl qvX4_readNumber ⟨Nat.le_of_ble_eq_true rfl, Nat.le_of_ble_eq_true rfl⟩) hK hP hD hS hA rfl rfl rfl rfl rfl hl.1 rfl (Nat.le_of_ble_eq_true rfl) dX4_readOrder_51 ⟨Nat.zero_le _, Nat.zero_le _⟩ (fun H locs hP hD hS => ?_)
        refine lv_if_ne (tgt := 59) (pc := 54) hx hb dX4_readOrder_54 (by decide) (fun c_9 => ?_) (fun c_9 => ?_)
        · refine lv_aload_n (pc := 59) hx hb dX4_readOrder_59 rfl (lv_at hl 0 rfl) ?_
          refine g_get (v := .int r8.2.2) (pc := 60) hx hb hts ii_X4_readOrder_X4 hown hK.1 hP 0 rfl rfl 7 (by decide) ⟨rfl, rfl, rfl⟩ mm_X4_readOrder_3 rfl dX4_readOrder_60 ?_
          refine lv_istore_n (lv' := [(2, .int r8.2.2), (0, .ref (t 0)), (1, .int r1)]) (pc := 63) hx hb dX4_readOrder_63 rfl hl (by decide) rfl (fun ls hl => ?_)
          refine lv_iload_n (pc := 64) hx hb dX4_readOrder_64 rfl (lv_at hl 2 rfl) ?_
          obtain ⟨r10, er10⟩ : ∃ z : Int32, fX4_hasSecond r1 = z := ⟨_, rfl⟩
          have hr10 := kX4_hasSecond l E r1
          rw [er10] at hr10
          refine gcSi (pc := 65) (As := [.int r1]) (rest := []) ⟨hx, hb, hml, hown, hts⟩ hr10 (cwS 1 hts gX4_readOrder_X4_hasSecond rfl rfl rfl qsX4_hasSecond ⟨Nat.le_of_ble_eq_true rfl, Nat.le_of_ble_eq_true rfl⟩) hK hP hD hS hA rfl hl.1 rfl (Nat.le_of_ble_eq_true rfl) dX4_readOrder_65 ⟨Nat.zero_le _, Nat.zero_le _⟩ (fun H locs hP hD hS => ?_)
          refine lv_if_eq (tgt := 81) (pc := 68) hx hb dX4_readOrder_68 (by decide) (fun c_11 => ?_) (fun c_11 => ?_)
          · refine lv_aload_n (pc := 81) hx hb dX4_readOrder_81 rfl (lv_at hl 1 rfl) ?_
            have hr12 := kX4_skipBlanks l E t n o r8.2.1 r8.2.2 b ks fs ss hn (by subst er8; exact (rn_le (by subst er2; subst er1; exact ik_lt c_3)).1)
            refine gcVv (pc := 82) (w1 := [(t 0, .inr (4, [.ref (t 1), .int (nI n), .ref (t 2), .ref (t 3), .ref (t 4), .int (nI o), .int (nI (sk b n r8.2.1)), .int r8.2.2])), (t 1, .inl (eB E, 120, .inl b)), (t 2, .inl (eI E, 40, .inl ks)), (t 3, .inl (eI E, 40, .inl fs)), (t 4, .inl (eI E, 40, .inl ss))]) (pre := []) (post := []) (As := []) (rest := []) (q0 := 0) ⟨hx, hb, hml, hown, hts⟩ hr12 (cwV 0 hts gX4_readOrder_X4_skipBlanks rfl rfl rfl qvX4_skipBlanks ⟨Nat.le_of_ble_eq_true rfl, Nat.le_of_ble_eq_true rfl⟩) hK hP hD hS hA rfl rfl rfl rfl rfl hl.1 rfl (Nat.le_of_ble_eq_true rfl) dX4_readOrder_82 ⟨Nat.zero_le _, Nat.zero_le _⟩ (fun H locs hP hD hS => ?_)
            refine lv_aload_n (pc := 85) hx hb dX4_readOrder_85 rfl (lv_at hl 1 rfl) ?_
            obtain ⟨r13, er13⟩ : ∃ z : Int32, fX4_here b n (sk b n r8.2.1) = z := ⟨_, rfl⟩
            have hr13 := kX4_here l E t n o (sk b n r8.2.1) r8.2.2 b ks fs ss hn (sk_le (by subst er8; exact (rn_le (by subst er2; subst er1; exact ik_lt c_3)).1))
            rw [er13] at hr13
            refine gcVi (pc := 86) (w1 := [(t 0, .inr (4, [.ref (t 1), .int (nI n), .ref (t 2), .ref (t 3), .ref (t 4), .int (nI o), .int (nI (sk b n r8.2.1)), .int r8.2.2])), (t 1, .inl (eB E, 120, .inl b)), (t 2, .inl (eI E, 40, .inl ks)), (t 3, .inl (eI E, 40, .inl fs)), (t 4, .inl (eI E, 40, .inl ss))]) (pre := []) (post := []) (As := []) (rest := []) (q0 := 0) ⟨hx, hb, hml, hown, hts⟩ hr13 (cwV 0 hts gX4_readOrder_X4_here rfl rfl rfl qvX4_here ⟨Nat.le_of_ble_eq_true rfl, Nat.le_of_ble_eq_true rfl⟩) hK hP hD hS hA rfl rfl rfl rfl rfl hl.1 rfl (Nat.le_of_ble_eq_true rfl) dX4_readOrder_86 ⟨Nat.zero_le _, Nat.zero_le _⟩ (fun H locs hP hD hS => ?_)
            refine lv_bipush (v := 59) (pc := 89) hx hb dX4_readOrder_89 rfl ?_
            refine lv_icmp_eq (tgt := 96) (pc := 91) hx hb dX4_readOrder_91 (by decide) (fun c_14 => ?_) (fun c_14 => ?_)
            · refine lv_aload_n (pc := 96) hx hb dX4_readOrder_96 rfl (lv_at hl 1 rfl) ?_
              refine lv_dup (pc := 97) hx hb dX4_readOrder_97 rfl ?_
              refine g_get (v := .int (nI (sk b n r8.2.1))) (pc := 98) hx hb hts ii_X4_readOrder_X4 hown hK.1 hP 0 rfl rfl 6 (by decide) ⟨rfl, rfl, rfl⟩ mm_X4_readOrder_2 rfl dX4_readOrder_98 ?_
              refine lv_iconst (v := 1) (pc := 101) hx hb dX4_readOrder_101 rfl ?_
              refine lv_iadd (pc := 102) hx hb dX4_readOrder_102 ?_
              rw [nI_1 (sk b n r8.2.1)]
              refine g_put (w1 := [(t 0, .inr (4, [.ref (t 1), .int (nI n), .ref (t 2), .ref (t 3), .ref (t 4), .int (nI o), .int (nI (sk b n r8.2.1 + 1)), .int r8.2.2])), (t 1, .inl (eB E, 120, .inl b)), (t 2, .inl (eI E, 40, .inl ks)), (t 3, .inl (eI E, 40, .inl fs)), (t 4, .inl (eI E, 40, .inl ss))]) (pc := 103) hx hb hts ii_X4_readOrder_X4 tyX4 tyX4_ok nmX4 hown hK.1 hP hD hS 0 rfl rfl 6 (by decide) ⟨rfl, rfl, rfl⟩ mm_X4_readOrder_2 rfl rfl rfl rfl (Nat.le_of_ble_eq_true rfl) rfl dX4_readOrder_103 (fun H locs hP hD hS => ?_)
              refine lv_aload_n (pc := 106) hx hb dX4_readOrder_106 rfl (lv_at hl 1 rfl) ?_
              refine g_get (v := .ref (t 2)) (pc := 107) hx hb hts ii_X4_readOrder_X4 hown hK.1 hP 0 rfl rfl 2 (by decide) ⟨rfl, rfl, rfl⟩ mm_X4_readOrder_4 rfl dX4_readOrder_107 ?_
              refine lv_aload_n (pc := 110) hx hb dX4_readOrder_110 rfl (lv_at hl 1 rfl) ?_
              refine g_get (v := .int (nI o)) (pc := 111) hx hb hts ii_X4_readOrder_X4 hown hK.1 hP 0 rfl rfl 5 (by decide) ⟨rfl, rfl, rfl⟩ mm_X4_readOrder_1 rfl dX4_readOrder_111 ?_
              refine lv_iload_n (pc := 114) hx hb dX4_readOrder_114 rfl (lv_at hl 2 rfl) ?_
              refine g_iast (j := o) (w1 := [(t 0, .inr (4, [.ref (t 1), .int (nI n), .ref (t 2), .ref (t 3), .ref (t 4), .int (nI o), .int (nI (sk b n r8.2.1 + 1)), .int r8.2.2])), (t 1, .inl (eB E, 120, .inl b)), (t 2, .inl (eI E, 40, .inl (upd ks o r1))), (t 3, .inl (eI E, 40, .inl fs)), (t 4, .inl (eI E, 40, .inl ss))]) (pc := 115) hx hb hK.1 hP hD hS 2 0 rfl rfl (vp_in_nI ((nI_ltI (by omega) (by decide)).mp c_4) (by decide)) (nI_clamp (by omega)) rfl dX4_readOrder_115 (fun H locs hP hD hS => ?_)
              refine lv_aload_n (pc := 116) hx hb dX4_readOrder_116 rfl (lv_at hl 1 rfl) ?_
              refine g_get (v := .ref (t 3)) (pc := 117) hx hb hts ii_X4_readOrder_X4 hown hK.1 hP 0 rfl rfl 3 (by decide) ⟨rfl, rfl, rfl⟩ mm_X4_readOrder_5 rfl dX4_readOrder_117 ?_
              refine lv_aload_n (pc := 120) hx hb dX4_readOrder_120 rfl (lv_at hl 1 rfl) ?_
              refine g_get (v := .int (nI o)) (pc := 121) hx hb hts ii_X4_readOrder_X4 hown hK.1 hP 0 rfl rfl 5 (by decide) ⟨rfl, rfl, rfl⟩ mm_X4_readOrder_1 rfl dX4_readOrder_121 ?_
              refine lv_iload_n (pc := 124) hx hb dX4_readOrder_124 rfl (lv_at hl 0 rfl) ?_
              refine g_iast (j := o) (w1 := [(t 0, .inr (4, [.ref (t 1), .int (nI n), .ref (t 2), .ref (t 3), .ref (t 4), .int (nI o), .int (nI (sk b n r8.2.1 + 1)), .int r8.2.2])), (t 1, .inl (eB E, 120, .inl b)), (t 2, .inl (eI E, 40, .inl (upd ks o r1))), (t 3, .inl (eI E, 40, .inl (upd fs o r8.2.2))), (t 4, .inl (eI E, 40, .inl ss))]) (pc := 125) hx hb hK.1 hP hD hS 3 0 rfl rfl (vp_in_nI ((nI_ltI (by omega) (by decide)).mp c_4) (by decide)) (nI_clamp (by omega)) rfl dX4_readOrder_125 (fun H locs hP hD hS => ?_)
              refine lv_aload_n (pc := 126) hx hb dX4_readOrder_126 rfl (lv_at hl 1 rfl) ?_
              refine g_get (v := .ref (t 4)) (pc := 127) hx hb hts ii_X4_readOrder_X4 hown hK.1 hP 0 rfl rfl 4 (by decide) ⟨rfl, rfl, rfl⟩ mm_X4_readOrder_6 rfl dX4_readOrder_127 ?_
              refine lv_aload_n (pc := 130) hx hb dX4_readOrder_130 rfl (lv_at hl 1 rfl) ?_
              refine g_get (v := .int (nI o)) (pc := 131) hx hb hts ii_X4_readOrder_X4 hown hK.1 hP 0 rfl rfl 5 (by decide) ⟨rfl, rfl, rfl⟩ mm_X4_readOrder_1 rfl dX4_readOrder_131 ?_
              refine lv_aload_n (pc := 134) hx hb dX4_readOrder_134 rfl (lv_at hl 1 rfl) ?_
              refine g_get (v := .int r8.2.2) (pc := 135) hx hb hts ii_X4_readOrder_X4 hown hK.1 hP 0 rfl rfl 7 (by decide) ⟨rfl, rfl, rfl⟩ mm_X4_readOrder_3 rfl dX4_readOrder_135 ?_
              refine g_iast (j := o) (w1 := [(t 0, .inr (4, [.ref (t 1), .int (nI n), .ref (t 2), .ref (t 3), .ref (t 4), .int (nI o), .int (nI (sk b n r8.2.1 + 1)), .int r8.2.2])), (t 1, .inl (eB E, 120, .inl b)), (t 2, .inl (eI E, 40, .inl (upd ks o r1))), (t 3, .inl (eI E, 40, .inl (upd fs o r8.2.2))), (t 4, .inl (eI E, 40, .inl (upd ss o r8.2.2)))]) (pc := 138) hx hb hK.1 hP hD hS 4 0 rfl rfl (vp_in_nI ((nI_ltI (by omega) (by decide)).mp c_4) (by decide)) (nI_clamp (by omega)) rfl dX4_readOrder_138 (fun H locs hP hD hS => ?_)
              refine lv_aload_n (pc := 139) hx hb dX4_readOrder_139 rfl (lv_at hl 1 rfl) ?_
              refine lv_dup (pc := 140) hx hb dX4_readOrder_140 rfl ?_
              refine g_get (v := .int (nI o)) (pc := 141) hx hb hts ii_X4_readOrder_X4 hown hK.1 hP 0 rfl rfl 5 (by decide) ⟨rfl, rfl, rfl⟩ mm_X4_readOrder_1 rfl dX4_readOrder_141 ?_
              refine lv_iconst (v := 1) (pc := 144) hx hb dX4_readOrder_144 rfl ?_
              refine lv_iadd (pc := 145) hx hb dX4_readOrder_145 ?_
              rw [nI_1 o]
              refine g_put (w1 := [(t 0, .inr (4, [.ref (t 1), .int (nI n), .ref (t 2), .ref (t 3), .ref (t 4), .int (nI (o + 1)), .int (nI (sk b n r8.2.1 + 1)), .int r8.2.2])), (t 1, .inl (eB E, 120, .inl b)), (t 2, .inl (eI E, 40, .inl (upd ks o r1))), (t 3, .inl (eI E, 40, .inl (upd fs o r8.2.2))), (t 4, .inl (eI E, 40, .inl (upd ss o r8.2.2)))]) (pc := 146) hx hb hts ii_X4_readOrder_X4 tyX4 tyX4_ok nmX4 hown hK.1 hP hD hS 0 rfl rfl 5 (by decide) ⟨rfl, rfl, rfl⟩ mm_X4_readOrder_1 rfl rfl rfl rfl (Nat.le_of_ble_eq_true rfl) rfl dX4_readOrder_146 (fun H locs hP hD hS => ?_)
              refine lv_iconst (v := 1) (pc := 149) hx hb dX4_readOrder_149 rfl ?_
              subst er13
              subst er10
              subst er8
              subst ex6
              subst er2
              subst er1
              have hfn : fX4_readOrder n o q u b ks fs ss = _ := (if_neg c_3).trans ((if_pos c_4).trans ((if_neg c_9).trans ((if_pos c_11).trans (if_pos c_14))))
              rw [hfn] at hQ
              exact hQ _ _ _ _ _ rfl hP hD hS dX4_readOrder_150
            · refine lv_iconst (v := 0) (pc := 94) hx hb dX4_readOrder_94 rfl ?_
              subst er13
              subst er10
              subst er8
              subst ex6
              subst er2
              subst er1
              have hfn : fX4_readOrder n o q u b ks fs ss = _ := (if_neg c_3).trans ((if_pos c_4).trans ((if_neg c_9).trans ((if_pos c_11).trans (if_neg c_14))))
              rw [hfn] at hQ
              exact hQ _ _ _ _ _ rfl hP hD hS dX4_readOrder_95
          · refine lv_aload_n (pc := 71) hx hb dX4_readOrder_71 rfl (lv_at hl 1 rfl) ?_
            refine lv_iconst (v := 0) (pc := 72) hx hb dX4_readOrder_72 rfl ?_
            obtain ⟨r15, er15⟩ : ∃ z : Int32 × (Nat × Int32), fX4_readNumber b n r8.2.1 r8.2.2 0 = z := ⟨_, rfl⟩
            have hr15 := kX4_readNumber l E t n o r8.2.1 r8.2.2 b ks fs ss 0 hn (by subst er8; exact (rn_le (by subst er2; subst er1; exact ik_lt c_3)).1)
            rw [er15] at hr15
            refine gcVi (pc := 73) (w1 := [(t 0, .inr (4, [.ref (t 1), .int (nI n), .ref (t 2), .ref (t 3), .ref (t 4), .int (nI o), .int (nI r15.2.1), .int r15.2.2])), (t 1, .inl (eB E, 120, .inl b)), (t 2, .inl (eI E, 40, .inl ks)), (t 3, .inl (eI E, 40, .inl fs)), (t 4, .inl (eI E, 40, .inl ss))]) (pre := []) (post := []) (As := [.int 0]) (rest := []) (q0 := 0) ⟨hx, hb, hml, hown, hts⟩ hr15 (cwV 1 hts gX4_readOrder_X4_readNumber rfl rfl rfl qvX4_readNumber ⟨Nat.le_of_ble_eq_true rfl, Nat.le_of_ble_eq_true rfl⟩) hK hP hD hS hA rfl rfl rfl rfl rfl hl.1 rfl (Nat.le_of_ble_eq_true rfl) dX4_readOrder_73 ⟨Nat.zero_le _, Nat.zero_le _⟩ (fun H locs hP hD hS => ?_)
            refine lv_if_ne (tgt := 81) (pc := 76) hx hb dX4_readOrder_76 (by decide) (fun c_16 => ?_) (fun c_16 => ?_)
            · refine lv_aload_n (pc := 81) hx hb dX4_readOrder_81 rfl (lv_at hl 1 rfl) ?_
              have hr17 := kX4_skipBlanks l E t n o r15.2.1 r15.2.2 b ks fs ss hn (by subst er15; exact (rn_le (by subst er8; exact (rn_le (by subst er2; subst er1; exact ik_lt c_3)).1)).1)
              refine gcVv (pc := 82) (w1 := [(t 0, .inr (4, [.ref (t 1), .int (nI n), .ref (t 2), .ref (t 3), .ref (t 4), .int (nI o), .int (nI (sk b n r15.2.1)), .int r15.2.2])), (t 1, .inl (eB E, 120, .inl b)), (t 2, .inl (eI E, 40, .inl ks)), (t 3, .inl (eI E, 40, .inl fs)), (t 4, .inl (eI E, 40, .inl ss))]) (pre := []) (post := []) (As := []) (rest := []) (q0 := 0) ⟨hx, hb, hml, hown, hts⟩ hr17 (cwV 0 hts gX4_readOrder_X4_skipBlanks rfl rfl rfl qvX4_skipBlanks ⟨Nat.le_of_ble_eq_true rfl, Nat.le_of_ble_eq_true rfl⟩) hK hP hD hS hA rfl rfl rfl rfl rfl hl.1 rfl (Nat.le_of_ble_eq_true rfl) dX4_readOrder_82 ⟨Nat.zero_le _, Nat.zero_le _⟩ (fun H locs hP hD hS => ?_)
              refine lv_aload_n (pc := 85) hx hb dX4_readOrder_85 rfl (lv_at hl 1 rfl) ?_
              obtain ⟨r18, er18⟩ : ∃ z : Int32, fX4_here b n (sk b n r15.2.1) = z := ⟨_, rfl⟩
              have hr18 := kX4_here l E t n o (sk b n r15.2.1) r15.2.2 b ks fs ss hn (sk_le (by subst er15; exact (rn_le (by subst er8; exact (rn_le (by subst er2; subst er1; exact ik_lt c_3)).1)).1))
              rw [er18] at hr18
              refine gcVi (pc := 86) (w1 := [(t 0, .inr (4, [.ref (t 1), .int (nI n), .ref (t 2), .ref (t 3), .ref (t 4), .int (nI o), .int (nI (sk b n r15.2.1)), .int r15.2.2])), (t 1, .inl (eB E, 120, .inl b)), (t 2, .inl (eI E, 40, .inl ks)), (t 3, .inl (eI E, 40, .inl fs)), (t 4, .inl (eI E, 40, .inl ss))]) (pre := []) (post := []) (As := []) (rest := []) (q0 := 0) ⟨hx, hb, hml, hown, hts⟩ hr18 (cwV 0 hts gX4_readOrder_X4_here rfl rfl rfl qvX4_here ⟨Nat.le_of_ble_eq_true rfl, Nat.le_of_ble_eq_true rfl⟩) hK hP hD hS hA rfl rfl rfl rfl rfl hl.1 rfl (Nat.le_of_ble_eq_true rfl) dX4_readOrder_86 ⟨Nat.zero_le _, Nat.zero_le _⟩ (fun H locs hP hD hS => ?_)
              refine lv_bipush (v := 59) (pc := 89) hx hb dX4_readOrder_89 rfl ?_
              refine lv_icmp_eq (tgt := 96) (pc := 91) hx hb dX4_readOrder_91 (by decide) (fun c_19 => ?_) (fun c_19 => ?_)
              · refine lv_aload_n (pc := 96) hx hb dX4_readOrder_96 rfl (lv_at hl 1 rfl) ?_
                refine lv_dup (pc := 97) hx hb dX4_readOrder_97 rfl ?_
                refine g_get (v := .int (nI (sk b n r15.2.1))) (pc := 98) hx hb hts ii_X4_readOrder_X4 hown hK.1 hP 0 rfl rfl 6 (by decide) ⟨rfl, rfl, rfl⟩ mm_X4_readOrder_2 rfl dX4_readOrder_98 ?_
                refine lv_iconst (v := 1) (pc := 101) hx hb dX4_readOrder_101 rfl ?_
                refine lv_iadd (pc := 102) hx hb dX4_readOrder_102 ?_
                rw [nI_1 (sk b n r15.2.1)]
                refine g_put (w1 := [(t 0, .inr (4, [.ref (t 1), .int (nI n), .ref (t 2), .ref (t 3), .ref (t 4), .int (nI o), .int (nI (sk b n r15.2.1 + 1)), .int r15.2.2])), (t 1, .inl (eB E, 120, .inl b)), (t 2, .inl (eI E, 40, .inl ks)), (t 3, .inl (eI E, 40, .inl fs)), (t 4, .inl (eI E, 40, .inl ss))]) (pc := 103) hx hb hts ii_X4_readOrder_X4 tyX4 tyX4_ok nmX4 hown hK.1 hP hD hS 0 rfl rfl 6 (by decide) ⟨rfl, rfl, rfl⟩ mm_X4_readOrder_2 rfl rfl rfl rfl (Nat.le_of_ble_eq_true rfl) rfl dX4_readOrder_103 (fun H locs hP hD hS => ?_)
                refine lv_aload_n (pc := 106) hx hb dX4_readOrder_106 rfl (lv_at hl 1 rfl) ?_
                refine g_get (v := .ref (t 2)) (pc := 107) hx hb hts ii_X4_readOrder_X4 hown hK.1 hP 0 rfl rfl 2 (by decide) ⟨rfl, rfl, rfl⟩ mm_X4_readOrder_4 rfl dX4_readOrder_107 ?_
                refine lv_aload_n (pc := 110) hx hb dX4_readOrder_110 rfl (lv_at hl 1 rfl) ?_
                refine g_get (v := .int (nI o)) (pc := 111) hx hb hts ii_X4_readOrder_X4 hown hK.1 hP 0 rfl rfl 5 (by decide) ⟨rfl, rfl, rfl⟩ mm_X4_readOrder_1 rfl dX4_readOrder_111 ?_
                refine lv_iload_n (pc := 114) hx hb dX4_readOrder_114 rfl (lv_at hl 2 rfl) ?_
                refine g_iast (j := o) (w1 := [(t 0, .inr (4, [.ref (t 1), .int (nI n), .ref (t 2), .ref (t 3), .ref (t 4), .int (nI o), .int (nI (sk b n r15.2.1 + 1)), .int r15.2.2])), (t 1, .inl (eB E, 120, .inl b)), (t 2, .inl (eI E, 40, .inl (upd ks o r1))), (t 3, .inl (eI E, 40, .inl fs)), (t 4, .inl (eI E, 40, .inl ss))]) (pc := 115) hx hb hK.1 hP hD hS 2 0 rfl rfl (vp_in_nI ((nI_ltI (by omega) (by decide)).mp c_4) (by decide)) (nI_clamp (by omega)) rfl dX4_readOrder_115 (fun H locs hP hD hS => ?_)
                refine lv_aload_n (pc := 116) hx hb dX4_readOrder_116 rfl (lv_at hl 1 rfl) ?_
                refine g_get (v := .ref (t 3)) (pc := 117) hx hb hts ii_X4_readOrder_X4 hown hK.1 hP 0 rfl rfl 3 (by decide) ⟨rfl, rfl, rfl⟩ mm_X4_readOrder_5 rfl dX4_readOrder_117 ?_
                refine lv_aload_n (pc := 120) hx hb dX4_readOrder_120 rfl (lv_at hl 1 rfl) ?_
                refine g_get (v := .int (nI o)) (pc := 121) hx hb hts ii_X4_readOrder_X4 hown hK.1 hP 0 rfl rfl 5 (by decide) ⟨rfl, rfl, rfl⟩ mm_X4_readOrder_1 rfl dX4_readOrder_121 ?_
                refine lv_iload_n (pc := 124) hx hb dX4_readOrder_124 rfl (lv_at hl 0 rfl) ?_
                refine g_iast (j := o) (w1 := [(t 0, .inr (4, [.ref (t 1), .int (nI n), .ref (t 2), .ref (t 3), .ref (t 4), .int (nI o), .int (nI (sk b n r15.2.1 + 1)), .int r15.2.2])), (t 1, .inl (eB E, 120, .inl b)), (t 2, .inl (eI E, 40, .inl (upd ks o r1))), (t 3, .inl (eI E, 40, .inl (upd fs o r8.2.2))), (t 4, .inl (eI E, 40, .inl ss))]) (pc := 125) hx hb hK.1 hP hD hS 3 0 rfl rfl (vp_in_nI ((nI_ltI (by omega) (by decide)).mp c_4) (by decide)) (nI_clamp (by omega)) rfl dX4_readOrder_125 (fun H locs hP hD hS => ?_)
                refine lv_aload_n (pc := 126) hx hb dX4_readOrder_126 rfl (lv_at hl 1 rfl) ?_
                refine g_get (v := .ref (t 4)) (pc := 127) hx hb hts ii_X4_readOrder_X4 hown hK.1 hP 0 rfl rfl 4 (by decide) ⟨rfl, rfl, rfl⟩ mm_X4_readOrder_6 rfl dX4_readOrder_127 ?_
                refine lv_aload_n (pc := 130) hx hb dX4_readOrder_130 rfl (lv_at hl 1 rfl) ?_
                refine g_get (v := .int (nI o)) (pc := 131) hx hb hts ii_X4_readOrder_X4 hown hK.1 hP 0 rfl rfl 5 (by decide) ⟨rfl, rfl, rfl⟩ mm_X4_readOrder_1 rfl dX4_readOrder_131 ?_
                refine lv_aload_n (pc := 134) hx hb dX4_readOrder_134 rfl (lv_at hl 1 rfl) ?_
                refine g_get (v := .int r15.2.2) (pc := 135) hx hb hts ii_X4_readOrder_X4 hown hK.1 hP 0 rfl rfl 7 (by decide) ⟨rfl, rfl, rfl⟩ mm_X4_readOrder_3 rfl dX4_readOrder_135 ?_
                refine g_iast (j := o) (w1 := [(t 0, .inr (4, [.ref (t 1), .int (nI n), .ref (t 2), .ref (t 3), .ref (t 4), .int (nI o), .int (nI (sk b n r15.2.1 + 1)), .int r15.2.2])), (t 1, .inl (eB E, 120, .inl b)), (t 2, .inl (eI E, 40, .inl (upd ks o r1))), (t 3, .inl (eI E, 40, .inl (upd fs o r8.2.2))), (t 4, .inl (eI E, 40, .inl (upd ss o r15.2.2)))]) (pc := 138) hx hb hK.1 hP hD hS 4 0 rfl rfl (vp_in_nI ((nI_ltI (by omega) (by decide)).mp c_4) (by decide)) (nI_clamp (by omega)) rfl dX4_readOrder_138 (fun H locs hP hD hS => ?_)
                refine lv_aload_n (pc := 139) hx hb dX4_readOrder_139 rfl (lv_at hl 1 rfl) ?_
                refine lv_dup (pc := 140) hx hb dX4_readOrder_140 rfl ?_
                refine g_get (v := .int (nI o)) (pc := 141) hx hb hts ii_X4_readOrder_X4 hown hK.1 hP 0 rfl rfl 5 (by decide) ⟨rfl, rfl, rfl⟩ mm_X4_readOrder_1 rfl dX4_readOrder_141 ?_
                refine lv_iconst (v := 1) (pc := 144) hx hb dX4_readOrder_144 rfl ?_
                refine lv_iadd (pc := 145) hx hb dX4_readOrder_145 ?_
                rw [nI_1 o]
                refine g_put (w1 := [(t 0, .inr (4, [.ref (t 1), .int (nI n), .ref (t 2), .ref (t 3), .ref (t 4), .int (nI (o + 1)), .int (nI (sk b n r15.2.1 + 1)), .int r15.2.2])), (t 1, .inl (eB E, 120, .inl b)), (t 2, .inl (eI E, 40, .inl (upd ks o r1))), (t 3, .inl (eI E, 40, .inl (upd fs o r8.2.2))), (t 4, .inl (eI E, 40, .inl (upd ss o r15.2.2)))]) (pc := 146) hx hb hts ii_X4_readOrder_X4 tyX4 tyX4_ok nmX4 hown hK.1 hP hD hS 0 rfl rfl 5 (by decide) ⟨rfl, rfl, rfl⟩ mm_X4_readOrder_1 rfl rfl rfl rfl (Nat.le_of_ble_eq_true rfl) rfl dX4_readOrder_146 (fun H locs hP hD hS => ?_)
                refine lv_iconst (v := 1) (pc := 149) hx hb dX4_readOrder_149 rfl ?_
                subst er18
                subst er15
                subst er10
                subst er8
                subst ex6
                subst er2
                subst er1
                have hfn : fX4_readOrder n o q u b ks fs ss = _ := (if_neg c_3).trans ((if_pos c_4).trans ((if_neg c_9).trans ((if_neg c_11).trans ((if_neg c_16).trans (if_pos c_19)))))
                rw [hfn] at hQ
                exact hQ _ _ _ _ _ rfl hP hD hS dX4_readOrder_150
              · refine lv_iconst (v := 0) (pc := 94) hx hb dX4_readOrder_94 rfl ?_
                subst er18
                subst er15
                subst er10
                subst er8
                subst ex6
                subst er2
                subst er1
                have hfn : fX4_readOrder n o q u b ks fs ss = _ := (if_neg c_3).trans ((if_pos c_4).trans ((if_neg c_9).trans ((if_neg c_11).trans ((if_neg c_16).trans (if_neg c_19)))))
                rw [hfn] at hQ
                exact hQ _ _ _ _ _ rfl hP hD hS dX4_readOrder_95
            · refine lv_iconst (v := 0) (pc := 79) hx hb dX4_readOrder_79 rfl ?_
              subst er15
              subst er10
              subst er8
              subst ex6
              subst er2
              subst er1
              have hfn : fX4_readOrder n o q u b ks fs ss = _ := (if_neg c_3).trans ((if_pos c_4).trans ((if_neg c_9).trans ((if_neg c_11).trans (if_pos c_16))))
              rw [hfn] at hQ
              exact hQ _ _ _ _ _ rfl hP hD hS dX4_readOrder_80
        · refine lv_iconst (v := 0) (pc := 57) hx hb dX4_readOrder_57 rfl ?_
          subst er8
          subst ex6
          subst er2
          subst er1
          have hfn : fX4_readOrder n o q u b ks fs ss = _ := (if_neg c_3).trans ((if_pos c_4).trans (if_pos c_9))
          rw [hfn] at hQ
          exact hQ _ _ _ _ _ rfl hP hD hS dX4_readOrder_58
      refine lv_icmp_eq (tgt := 46) (pc := 37) hx hb dX4_readOrder_37 (by decide) (fun c_5 => ?_) (fun c_5 => ?_)
      · refine lv_iconst (v := 1) (pc := 46) hx hb dX4_readOrder_46 rfl ?_
        refine lv_goto (tgt := 51) (pc := 47) hx hb dX4_readOrder_47 (by decide) ?_
        exact J_7 _ _ _ _ (if_pos c_5) hP hD hS (lv_sub hl [1, 0] rfl)
      · refine lv_iload_n (pc := 40) hx hb dX4_readOrder_40 rfl (lv_at hl 0 rfl) ?_
        refine lv_bipush (v := 108) (pc := 41) hx hb dX4_readOrder_41 rfl ?_
        refine lv_icmp_ne (tgt := 50) (pc := 43) hx hb dX4_readOrder_43 (by decide) (fun c_6 => ?_) (fun c_6 => ?_)
        · refine lv_iconst (v := 0) (pc := 50) hx hb dX4_readOrder_50 rfl ?_
          exact J_7 _ _ _ _ ((if_neg c_5).trans (if_neg c_6)) hP hD hS (lv_sub hl [1, 0] rfl)
        · refine lv_iconst (v := 1) (pc := 46) hx hb dX4_readOrder_46 rfl ?_
          refine lv_goto (tgt := 51) (pc := 47) hx hb dX4_readOrder_47 (by decide) ?_
          exact J_7 _ _ _ _ ((if_neg c_5).trans (if_pos c_6)) hP hD hS (lv_sub hl [1, 0] rfl)
    · refine lv_iconst (v := 0) (pc := 21) hx hb dX4_readOrder_21 rfl ?_
      subst er2
      subst er1
      have hfn : fX4_readOrder n o q u b ks fs ss = _ := (if_neg c_3).trans (if_neg c_4)
      rw [hfn] at hQ
      exact hQ _ _ _ _ _ rfl hP hD hS dX4_readOrder_22

def rdE (n : Nat) (S : RS) : Int32 := if (nI S.1) ≤ 0 then 0 else (if (nI S.2.1) < (nI n) then 0 else 1)
def rdO (b : Nat → Int32) (n : Nat) (S : RS) : Int32 × RS := fX4_readOrder n S.1 S.2.1 S.2.2.1 b S.2.2.2.1 S.2.2.2.2.1 S.2.2.2.2.2
def rdT (b : Nat → Int32) (n : Nat) : Nat → RS → Int32 × RS
  | 0, S => (rdE n S, S)
  | f + 1, S => if (nI n) ≤ (nI S.2.1) then (rdE n S, S) else (if (rdO b n S).1 = 0 then (0, (rdO b n S).2) else rdT b n f ((rdO b n S).2.1, sk b n (rdO b n S).2.2.1, (rdO b n S).2.2.2))
def fX4_read (X : Txt) (n : Nat) : Int32 × RS := rdT X.2.1 n 40 (0, sk X.2.1 n 0, X.1 3, X.2.2.1, X.2.2.2.1, X.2.2.2.2)
theorem rdE_z (n : Nat) (S : RS) : rdE n S = 0 ∨ rdE n S = 1 := by
  unfold rdE
  by_cases c1 : (nI S.1) ≤ 0
  · rw [if_pos c1]; exact Or.inl rfl
  · rw [if_neg c1]
    by_cases c2 : (nI S.2.1) < (nI n)
    · rw [if_pos c2]; exact Or.inl rfl
    · rw [if_neg c2]; exact Or.inr rfl
theorem rdT_z (b : Nat → Int32) (n : Nat) : ∀ (f : Nat) (S : RS), (rdT b n f S).1 = 0 ∨ (rdT b n f S).1 = 1
  | 0, S => rdE_z n S
  | f + 1, S => by
    show (if (nI n) ≤ (nI S.2.1) then (rdE n S, S) else (if (rdO b n S).1 = 0 then (0, (rdO b n S).2) else rdT b n f ((rdO b n S).2.1, sk b n (rdO b n S).2.2.1, (rdO b n S).2.2.2))).1 = 0 ∨ (if (nI n) ≤ (nI S.2.1) then (rdE n S, S) else (if (rdO b n S).1 = 0 then (0, (rdO b n S).2) else rdT b n f ((rdO b n S).2.1, sk b n (rdO b n S).2.2.1, (rdO b n S).2.2.2))).1 = 1
    by_cases c1 : (nI n) ≤ (nI S.2.1)
    · rw [if_pos c1]; exact rdE_z n S
    · rw [if_neg c1]
      by_cases c2 : (rdO b n S).1 = 0
      · rw [if_pos c2]; exact Or.inl rfl
      · rw [if_neg c2]; exact rdT_z b n f _

/-- the text behind a reading -/
abbrev rdX (X : Txt) (n : Nat) (S : RS) : Txt := (upd (upd (upd (upd X.1 0 (nI n)) 1 (nI S.1)) 2 (nI S.2.1)) 3 S.2.2.1, X.2.1, S.2.2.2.1, S.2.2.2.2.1, S.2.2.2.2.2)
abbrev rX4_read : Room := { frames := 4, cells := 0, slots := 0, locals := 86 }
theorem mm_X4_read_1 : Cond.fieldLink RX4 38 "GaugeBounds$Text" "place" "I" ∈ wsX4_read := List.mem_of_getElem? (i := 1) rfl
theorem mm_X4_read_2 : Cond.fieldLink RX4 35 "GaugeBounds$Text" "orders" "I" ∈ wsX4_read := List.mem_of_getElem? (i := 2) rfl
theorem mm_X4_read_3 : Cond.fieldLink RX4 25 "GaugeBounds$Text" "length" "I" ∈ wsX4_read := List.mem_of_getElem? (i := 3) rfl
theorem ii_X4_read_X4 : ∀ w ∈ wsX40, w ∈ wsX4_read := fun _ h => List.mem_cons_of_mem _ (List.mem_append_right _ (h))
theorem qvX4_read : yX4_read.cls = RX4 ∧ yX4_read.cls ≠ "java/lang/invoke/MethodHandle" ∧ yX4_read.cls ≠ "java/lang/invoke/VarHandle" ∧ (parseMethodDescriptor yX4_read.desc).map (fun d => d.parameters.length) = some 0 := by decide +kernel
set_option maxHeartbeats 4000000 in
set_option maxRecDepth 100000 in
theorem kX4_read (l : Launch) (E : gEnv) (t : Nat → Nat) (X : Txt) (n : Nat) (hn : n ≤ 120) (hx0 : X.1 0 = nI n) : gMi l E yX4_read wsX4_read rX4_read [.ref (t 0)] (wT E t X) (fX4_read X n).1 (wT E t (rdX X n ((fX4_read X n).2))) := by
  refine gMz_of (cc := cX4_read) (maxL := 2) (ret := (some .boolean)) (by decide) rfl rfl (Nat.le_of_ble_eq_true rfl) (zb (rdT_z _ _ _ _)) ?_
  intro p e s m args below meth c A Q ls hB hQ
  obtain ⟨hx, hb, hml, hown, hts, hK, hP, hD, hA, hS, hl⟩ := hB
  have hown : s.vm.findClass RX4 = some m.cls := hown
  have hP : va_P E.1 vwCl [(t 0, .inr (4, [.ref (t 1), .int (X.1 0), .ref (t 2), .ref (t 3), .ref (t 4), .int (X.1 1), .int (X.1 2), .int (X.1 3)])), (t 1, .inl (eB E, 120, .inl X.2.1)), (t 2, .inl (eI E, 40, .inl X.2.2.1)), (t 3, .inl (eI E, 40, .inl X.2.2.2.1)), (t 4, .inl (eI E, 40, .inl X.2.2.2.2))] s.heap := hP
  have hD : va_D A [(t 0, .inr (4, [.ref (t 1), .int (X.1 0), .ref (t 2), .ref (t 3), .ref (t 4), .int (X.1 1), .int (X.1 2), .int (X.1 3)])), (t 1, .inl (eB E, 120, .inl X.2.1)), (t 2, .inl (eI E, 40, .inl X.2.2.1)), (t 3, .inl (eI E, 40, .inl X.2.2.2.1)), (t 4, .inl (eI E, 40, .inl X.2.2.2.2))] := hD
  have hl : lv_has ls 2 [(0, .ref (t 0))] := hl
  rw [hx0] at hP hD
  refine lv_aload_n (pc := 0) hx hb dX4_read_0 rfl (lv_at hl 0 rfl) ?_
  refine lv_iconst (v := 0) (pc := 1) hx hb dX4_read_1 rfl ?_
  refine g_put (w1 := [(t 0, .inr (4, [.ref (t 1), .int (nI n), .ref (t 2), .ref (t 3), .ref (t 4), .int (X.1 1), .int 0, .int (X.1 3)])), (t 1, .inl (eB E, 120, .inl X.2.1)), (t 2, .inl (eI E, 40, .inl X.2.2.1)), (t 3, .inl (eI E, 40, .inl X.2.2.2.1)), (t 4, .inl (eI E, 40, .inl X.2.2.2.2))]) (pc := 2) hx hb hts ii_X4_read_X4 tyX4 tyX4_ok nmX4 hown hK.1 hP hD hS 0 rfl rfl 6 (by decide) ⟨rfl, rfl, rfl⟩ mm_X4_read_1 rfl rfl rfl rfl (Nat.le_of_ble_eq_true rfl) rfl dX4_read_2 (fun H locs hP hD hS => ?_)
  refine lv_aload_n (pc := 5) hx hb dX4_read_5 rfl (lv_at hl 0 rfl) ?_
  refine lv_iconst (v := 0) (pc := 6) hx hb dX4_read_6 rfl ?_
  refine g_put (w1 := [(t 0, .inr (4, [.ref (t 1), .int (nI n), .ref (t 2), .ref (t 3), .ref (t 4), .int 0, .int 0, .int (X.1 3)])), (t 1, .inl (eB E, 120, .inl X.2.1)), (t 2, .inl (eI E, 40, .inl X.2.2.1)), (t 3, .inl (eI E, 40, .inl X.2.2.2.1)), (t 4, .inl (eI E, 40, .inl X.2.2.2.2))]) (pc := 7) hx hb hts ii_X4_read_X4 tyX4 tyX4_ok nmX4 hown hK.1 hP hD hS 0 rfl rfl 5 (by decide) ⟨rfl, rfl, rfl⟩ mm_X4_read_2 rfl rfl rfl rfl (Nat.le_of_ble_eq_true rfl) rfl dX4_read_7 (fun H locs hP hD hS => ?_)
  refine lv_aload_n (pc := 10) hx hb dX4_read_10 rfl (lv_at hl 0 rfl) ?_
  have hr1 := kX4_skipBlanks l E t n 0 0 (X.1 3) X.2.1 X.2.2.1 X.2.2.2.1 X.2.2.2.2 hn (Nat.zero_le n)
  refine gcVv (pc := 11) (w1 := [(t 0, .inr (4, [.ref (t 1), .int (nI n), .ref (t 2), .ref (t 3), .ref (t 4), .int 0, .int (nI (sk X.2.1 n 0)), .int (X.1 3)])), (t 1, .inl (eB E, 120, .inl X.2.1)), (t 2, .inl (eI E, 40, .inl X.2.2.1)), (t 3, .inl (eI E, 40, .inl X.2.2.2.1)), (t 4, .inl (eI E, 40, .inl X.2.2.2.2))]) (pre := []) (post := []) (As := []) (rest := []) (q0 := 0) ⟨hx, hb, hml, hown, hts⟩ hr1 (cwV 0 hts gX4_read_X4_skipBlanks rfl rfl rfl qvX4_skipBlanks ⟨Nat.le_of_ble_eq_true rfl, Nat.le_of_ble_eq_true rfl⟩) hK hP hD hS hA rfl rfl rfl rfl rfl hl.1 rfl (Nat.le_of_ble_eq_true rfl) dX4_read_11 ⟨Nat.zero_le _, Nat.zero_le _⟩ (fun H locs hP hD hS => ?_)
  refine lv_iconst (v := 0) (pc := 14) hx hb dX4_read_14 rfl ?_
  refine lv_istore_n (lv' := [(1, .int 0), (0, .ref (t 0))]) (pc := 15) hx hb dX4_read_15 rfl hl (by decide) rfl (fun ls hl => ?_)
  have loop : ∀ (f i : Nat) (S : RS), i + f = 40 → S.2.1 ≤ n → S.1 + f ≤ 40 → rdT X.2.1 n f S = fX4_read X n → ∀ (H : Heap) (locs : List Loc) (ls : Array Slot), va_P E.1 vwCl [(t 0, .inr (4, [.ref (t 1), .int (nI n), .ref (t 2), .ref (t 3), .ref (t 4), .int (nI S.1), .int (nI S.2.1), .int S.2.2.1])), (t 1, .inl (eB E, 120, .inl X.2.1)), (t 2, .inl (eI E, 40, .inl S.2.2.2.1)), (t 3, .inl (eI E, 40, .inl S.2.2.2.2.1)), (t 4, .inl (eI E, 40, .inl S.2.2.2.2.2))] H → va_D A [(t 0, .inr (4, [.ref (t 1), .int (nI n), .ref (t 2), .ref (t 3), .ref (t 4), .int (nI S.1), .int (nI S.2.1), .int S.2.2.1])), (t 1, .inl (eB E, 120, .inl X.2.1)), (t 2, .inl (eI E, 40, .inl S.2.2.2.1)), (t 3, .inl (eI E, 40, .inl S.2.2.2.2.1)), (t 4, .inl (eI E, 40, .inl S.2.2.2.2.2))] → va_S A s.heap H locs → lv_has ls 2 [(0, .ref (t 0)), (1, .int (nI i))] → W p l e rX4_read s m args below meth c H locs 0 0 Q (F0 m 16 ls []) := by
    intro f
    induction f with
    | zero =>
      intro i S hi hqn ho hk H locs ls hP hD hS hl
      obtain rfl : i = 40 := by omega
      refine lv_iload_n (pc := 16) hx hb dX4_read_16 rfl (lv_at hl 1 rfl) ?_
      refine lv_bipush (v := 40) (pc := 17) hx hb dX4_read_17 rfl ?_
      refine lv_icmp_ge (tgt := 52) (pc := 19) hx hb dX4_read_19 (by decide) (fun c_2 => ?_) (fun c_2 => ?_)
      rotate_left
      · exact absurd (nI_le (a := 40) (b := 40) (by decide) (by decide)) c_2
      refine lv_aload_n (pc := 52) hx hb dX4_read_52 rfl (lv_at hl 0 rfl) ?_
      refine g_get (v := .int (nI S.1)) (pc := 53) hx hb hts ii_X4_read_X4 hown hK.1 hP 0 rfl rfl 5 (by decide) ⟨rfl, rfl, rfl⟩ mm_X4_read_2 rfl dX4_read_53 ?_
      refine lv_if_le (tgt := 74) (pc := 56) hx hb dX4_read_56 (by decide) (fun c_3 => ?_) (fun c_3 => ?_)
      · refine lv_iconst (v := 0) (pc := 74) hx hb dX4_read_74 rfl ?_
        have hfn : fX4_read X n = (0, S) := hk.symm.trans (Prod.ext (show rdE n S = 0 from if_pos c_3) rfl)
        rw [hfn] at hQ
        exact hQ _ _ _ _ _ rfl hP hD hS dX4_read_75
      · refine lv_aload_n (pc := 59) hx hb dX4_read_59 rfl (lv_at hl 0 rfl) ?_
        refine g_get (v := .int (nI S.2.1)) (pc := 60) hx hb hts ii_X4_read_X4 hown hK.1 hP 0 rfl rfl 6 (by decide) ⟨rfl, rfl, rfl⟩ mm_X4_read_1 rfl dX4_read_60 ?_
        refine lv_aload_n (pc := 63) hx hb dX4_read_63 rfl (lv_at hl 0 rfl) ?_
        refine g_get (v := .int (nI n)) (pc := 64) hx hb hts ii_X4_read_X4 hown hK.1 hP 0 rfl rfl 1 (by decide) ⟨rfl, rfl, rfl⟩ mm_X4_read_3 rfl dX4_read_64 ?_
        refine lv_icmp_lt (tgt := 74) (pc := 67) hx hb dX4_read_67 (by decide) (fun c_4 => ?_) (fun c_4 => ?_)
        · refine lv_iconst (v := 0) (pc := 74) hx hb dX4_read_74 rfl ?_
          have hfn : fX4_read X n = (0, S) := hk.symm.trans (Prod.ext (show rdE n S = 0 from (if_neg c_3).trans (if_pos c_4)) rfl)
          rw [hfn] at hQ
          exact hQ _ _ _ _ _ rfl hP hD hS dX4_read_75
        · refine lv_iconst (v := 1) (pc := 70) hx hb dX4_read_70 rfl ?_
          refine lv_goto (tgt := 75) (pc := 71) hx hb dX4_read_71 (by decide) ?_
          have hfn : fX4_read X n = (1, S) := hk.symm.trans (Prod.ext (show rdE n S = 1 from (if_neg c_3).trans (if_neg c_4)) rfl)
          rw [hfn] at hQ
          exact hQ _ _ _ _ _ rfl hP hD hS dX4_read_75
    | succ f ih =>
      intro i S hi hqn ho hk H locs ls hP hD hS hl
      have hi4 : i < 40 := by omega
      refine lv_iload_n (pc := 16) hx hb dX4_read_16 rfl (lv_at hl 1 rfl) ?_
      refine lv_bipush (v := 40) (pc := 17) hx hb dX4_read_17 rfl ?_
      refine lv_icmp_ge (tgt := 52) (pc := 19) hx hb dX4_read_19 (by decide) (fun c_5 => ?_) (fun c_5 => ?_)
      · exact absurd c_5 (nI_ge (a := i) (b := 40) hi4 (by decide))
      refine lv_aload_n (pc := 22) hx hb dX4_read_22 rfl (lv_at hl 0 rfl) ?_
      refine g_get (v := .int (nI S.2.1)) (pc := 23) hx hb hts ii_X4_read_X4 hown hK.1 hP 0 rfl rfl 6 (by decide) ⟨rfl, rfl, rfl⟩ mm_X4_read_1 rfl dX4_read_23 ?_
      refine lv_aload_n (pc := 26) hx hb dX4_read_26 rfl (lv_at hl 0 rfl) ?_
      refine g_get (v := .int (nI n)) (pc := 27) hx hb hts ii_X4_read_X4 hown hK.1 hP 0 rfl rfl 1 (by decide) ⟨rfl, rfl, rfl⟩ mm_X4_read_3 rfl dX4_read_27 ?_
      refine lv_icmp_ge (tgt := 52) (pc := 30) hx hb dX4_read_30 (by decide) (fun c_6 => ?_) (fun c_6 => ?_)
      · refine lv_aload_n (pc := 52) hx hb dX4_read_52 rfl (lv_at hl 0 rfl) ?_
        refine g_get (v := .int (nI S.1)) (pc := 53) hx hb hts ii_X4_read_X4 hown hK.1 hP 0 rfl rfl 5 (by decide) ⟨rfl, rfl, rfl⟩ mm_X4_read_2 rfl dX4_read_53 ?_
        refine lv_if_le (tgt := 74) (pc := 56) hx hb dX4_read_56 (by decide) (fun c_7 => ?_) (fun c_7 => ?_)
        · refine lv_iconst (v := 0) (pc := 74) hx hb dX4_read_74 rfl ?_
          have hfn : fX4_read X n = (0, S) := hk.symm.trans ((show rdT X.2.1 n (f + 1) S = (rdE n S, S) from if_pos c_6).trans (Prod.ext (show rdE n S = 0 from if_pos c_7) rfl))
          rw [hfn] at hQ
          exact hQ _ _ _ _ _ rfl hP hD hS dX4_read_75
        · refine lv_aload_n (pc := 59) hx hb dX4_read_59 rfl (lv_at hl 0 rfl) ?_
          refine g_get (v := .int (nI S.2.1)) (pc := 60) hx hb hts ii_X4_read_X4 hown hK.1 hP 0 rfl rfl 6 (by decide) ⟨rfl, rfl, rfl⟩ mm_X4_read_1 rfl dX4_read_60 ?_
          refine lv_aload_n (pc := 63) hx hb dX4_read_63 rfl (lv_at hl 0 rfl) ?_
          refine g_get (v := .int (nI n)) (pc := 64) hx hb hts ii_X4_read_X4 hown hK.1 hP 0 rfl rfl 1 (by decide) ⟨rfl, rfl, rfl⟩ mm_X4_read_3 rfl dX4_read_64 ?_
          refine lv_icmp_lt (tgt := 74) (pc := 67) hx hb dX4_read_67 (by decide) (fun c_8 => ?_) (fun c_8 => ?_)
          · refine lv_iconst (v := 0) (pc := 74) hx hb dX4_read_74 rfl ?_
            have hfn : fX4_read X n = (0, S) := hk.symm.trans ((show rdT X.2.1 n (f + 1) S = (rdE n S, S) from if_pos c_6).trans (Prod.ext (show rdE n S = 0 from (if_neg c_7).trans (if_pos c_8)) rfl))
            rw [hfn] at hQ
            exact hQ _ _ _ _ _ rfl hP hD hS dX4_read_75
          · refine lv_iconst (v := 1) (pc := 70) hx hb dX4_read_70 rfl ?_
            refine lv_goto (tgt := 75) (pc := 71) hx hb dX4_read_71 (by decide) ?_
            have hfn : fX4_read X n = (1, S) := hk.symm.trans ((show rdT X.2.1 n (f + 1) S = (rdE n S, S) from if_pos c_6).trans (Prod.ext (show rdE n S = 1 from (if_neg c_7).trans (if_neg c_8)) rfl))
            rw [hfn] at hQ
            exact hQ _ _ _ _ _ rfl hP hD hS dX4_read_75
      · have hlt : S.2.1 < n := by have := mt (nle (by omega) (by omega)).mpr c_6; omega
        refine lv_aload_n (pc := 33) hx hb dX4_read_33 rfl (lv_at hl 0 rfl) ?_
        obtain ⟨r9, er9⟩ : ∃ z : Int32 × (RS), fX4_readOrder n S.1 S.2.1 S.2.2.1 X.2.1 S.2.2.2.1 S.2.2.2.2.1 S.2.2.2.2.2 = z := ⟨_, rfl⟩
        have hr9 := kX4_readOrder l E t n S.1 S.2.1 S.2.2.1 X.2.1 S.2.2.2.1 S.2.2.2.2.1 S.2.2.2.2.2 hn (Nat.le_of_lt hlt) (by omega)
        rw [er9] at hr9
        refine gcVi (pc := 34) (w1 := [(t 0, .inr (4, [.ref (t 1), .int (nI n), .ref (t 2), .ref (t 3), .ref (t 4), .int (nI r9.2.1), .int (nI r9.2.2.1), .int r9.2.2.2.1])), (t 1, .inl (eB E, 120, .inl X.2.1)), (t 2, .inl (eI E, 40, .inl r9.2.2.2.2.1)), (t 3, .inl (eI E, 40, .inl r9.2.2.2.2.2.1)), (t 4, .inl (eI E, 40, .inl r9.2.2.2.2.2.2))]) (pre := []) (post := []) (As := []) (rest := []) (q0 := 0) ⟨hx, hb, hml, hown, hts⟩ hr9 (cwV 0 hts gX4_read_X4_readOrder rfl rfl rfl qvX4_readOrder ⟨Nat.le_of_ble_eq_true rfl, Nat.le_of_ble_eq_true rfl⟩) hK hP hD hS hA rfl rfl rfl rfl rfl hl.1 rfl (Nat.le_of_ble_eq_true rfl) dX4_read_34 ⟨Nat.zero_le _, Nat.zero_le _⟩ (fun H locs hP hD hS => ?_)
        refine lv_if_ne (tgt := 42) (pc := 37) hx hb dX4_read_37 (by decide) (fun c_10 => ?_) (fun c_10 => ?_)
        · refine lv_aload_n (pc := 42) hx hb dX4_read_42 rfl (lv_at hl 0 rfl) ?_
          have hr11 := kX4_skipBlanks l E t n r9.2.1 r9.2.2.1 r9.2.2.2.1 X.2.1 r9.2.2.2.2.1 r9.2.2.2.2.2.1 r9.2.2.2.2.2.2 hn (by subst er9; exact (ro_le _ _ _ _ _ _ _ _ (Nat.le_of_lt hlt)).1)
          refine gcVv (pc := 43) (w1 := [(t 0, .inr (4, [.ref (t 1), .int (nI n), .ref (t 2), .ref (t 3), .ref (t 4), .int (nI r9.2.1), .int (nI (sk X.2.1 n r9.2.2.1)), .int r9.2.2.2.1])), (t 1, .inl (eB E, 120, .inl X.2.1)), (t 2, .inl (eI E, 40, .inl r9.2.2.2.2.1)), (t 3, .inl (eI E, 40, .inl r9.2.2.2.2.2.1)), (t 4, .inl (eI E, 40, .inl r9.2.2.2.2.2.2))]) (pre := []) (post := []) (As := []) (rest := []) (q0 := 0) ⟨hx, hb, hml, hown, hts⟩ hr11 (cwV 0 hts gX4_read_X4_skipBlanks rfl rfl rfl qvX4_skipBlanks ⟨Nat.le_of_ble_eq_true rfl, Nat.le_of_ble_eq_true rfl⟩) hK hP hD hS hA rfl rfl rfl rfl rfl hl.1 rfl (Nat.le_of_ble_eq_true rfl) dX4_read_43 ⟨Nat.zero_le _, Nat.zero_le _⟩ (fun H locs hP hD hS => ?_)
          refine lv_iinc (v := nI (i + 1)) (lv' := [(1, .int (nI (i + 1))), (0, .ref (t 0))]) (pc := 46) hx hb dX4_read_46 hl (k := 1) rfl (nI_1 i) (by decide) rfl (fun ls hl => ?_)
          refine lv_goto (tgt := 16) (pc := 49) hx hb dX4_read_49 (by decide) ?_
          subst er9
          have hro := ro_le n S.1 S.2.1 S.2.2.1 X.2.1 S.2.2.2.1 S.2.2.2.2.1 S.2.2.2.2.2 (Nat.le_of_lt hlt)
          exact ih (i + 1) ((rdO X.2.1 n S).2.1, sk X.2.1 n (rdO X.2.1 n S).2.2.1, (rdO X.2.1 n S).2.2.2) (by omega) (sk_le hro.1) (by have := hro.2.1; show (rdO X.2.1 n S).2.1 + f ≤ 40; unfold rdO; omega) ((show rdT X.2.1 n (f + 1) S = _ from (if_neg c_6).trans (if_neg c_10)).symm.trans hk) _ _ _ hP hD hS (lv_sub hl [1, 0] rfl)
        · refine lv_iconst (v := 0) (pc := 40) hx hb dX4_read_40 rfl ?_
          subst er9
          have hfn : fX4_read X n = (0, (rdO X.2.1 n S).2) := hk.symm.trans ((if_neg c_6).trans (if_pos c_10))
          rw [hfn] at hQ
          exact hQ _ _ _ _ _ rfl hP hD hS dX4_read_41
  exact loop 40 0 (0, sk X.2.1 n 0, X.1 3, X.2.2.1, X.2.2.2.1, X.2.2.2.2) (by decide) (sk_le (Nat.zero_le n)) (Nat.le_refl 40) rfl _ _ _ hP hD hS (lv_sub hl [1, 0] rfl)

theorem ap_in {x : Int32} (h : 0 ≤ x.toInt ∧ x.toInt ≤ 120) (c : x < 120) : vp_in x 120 := by
  rw [Int32.lt_iff_toInt_lt] at c
  simp only [Int32.reduceToInt] at c
  exact ix_ofT h.1 c
theorem kd_in {x y : Int32} (hy : 0 ≤ y.toInt ∧ y.toInt ≤ 40) (h : ¬ fX5_within x 0 (y - 1) = 0) : vp_in x 40 := by
  have e1 : (y - 1).toInt = y.toInt - 1 := Jvm.Kit.i32_sub (y := 1) (by simp only [Int32.reduceToInt]; omega) (by simp only [Int32.reduceToInt]; omega)
  simp only [fX5_within, bz_0] at h
  simp only [Int32.le_iff_toInt_le, e1, Int32.reduceToInt] at h
  exact ix_ofT (by omega) (by omega)

def fX4_length (X : Txt) : Int32 :=
  X.1 0
abbrev rX4_length : Room := { frames := 0, cells := 0, slots := 0, locals := 0 }
theorem mm_X4_length_1 : Cond.fieldLink RX4 25 "GaugeBounds$Text" "length" "I" ∈ wsX4_length := List.mem_of_getElem? (i := 1) rfl
theorem ii_X4_length_X4 : ∀ w ∈ wsX40, w ∈ wsX4_length := fun _ h => List.mem_cons_of_mem _ (List.mem_append_right _ (h))
theorem qvX4_length : yX4_length.cls = RX4 ∧ yX4_length.cls ≠ "java/lang/invoke/MethodHandle" ∧ yX4_length.cls ≠ "java/lang/invoke/VarHandle" ∧ (parseMethodDescriptor yX4_length.desc).map (fun d => d.parameters.length) = some 0 := by decide +kernel
set_option maxHeartbeats 4000000 in
set_option maxRecDepth 100000 in
theorem kX4_length (l : Launch) (E : gEnv) (t : Nat → Nat) (X : Txt) : gMi l E yX4_length wsX4_length rX4_length [.ref (t 0)] (wT E t X) (fX4_length X) (wT E t X) := by
  refine gMi_of (cc := cX4_length) (maxL := 1) (ret := (some .int)) (by decide) rfl rfl (Nat.le_of_ble_eq_true rfl) ?_
  intro p e s m args below meth c A Q ls hB hQ
  obtain ⟨hx, hb, hml, hown, hts, hK, hP, hD, hA, hS, hl⟩ := hB
  have hown : s.vm.findClass RX4 = some m.cls := hown
  have hP : va_P E.1 vwCl [(t 0, .inr (4, [.ref (t 1), .int (X.1 0), .ref (t 2), .ref (t 3), .ref (t 4), .int (X.1 1), .int (X.1 2), .int (X.1 3)])), (t 1, .inl (eB E, 120, .inl X.2.1)), (t 2, .inl (eI E, 40, .inl X.2.2.1)), (t 3, .inl (eI E, 40, .inl X.2.2.2.1)), (t 4, .inl (eI E, 40, .inl X.2.2.2.2))] s.heap := hP
  have hD : va_D A [(t 0, .inr (4, [.ref (t 1), .int (X.1 0), .ref (t 2), .ref (t 3), .ref (t 4), .int (X.1 1), .int (X.1 2), .int (X.1 3)])), (t 1, .inl (eB E, 120, .inl X.2.1)), (t 2, .inl (eI E, 40, .inl X.2.2.1)), (t 3, .inl (eI E, 40, .inl X.2.2.2.1)), (t 4, .inl (eI E, 40, .inl X.2.2.2.2))] := hD
  have hl : lv_has ls 1 [(0, .ref (t 0))] := hl
  refine lv_aload_n (pc := 0) hx hb dX4_length_0 rfl (lv_at hl 0 rfl) ?_
  refine g_get (v := .int (X.1 0)) (pc := 1) hx hb hts ii_X4_length_X4 hown hK.1 hP 0 rfl rfl 1 (by decide) ⟨rfl, rfl, rfl⟩ mm_X4_length_1 rfl dX4_length_1 ?_
  exact hQ _ _ _ _ _ rfl hP hD hS dX4_length_4

def fX4_orders (X : Txt) : Int32 :=
  X.1 1
abbrev rX4_orders : Room := { frames := 0, cells := 0, slots := 0, locals := 0 }
theorem mm_X4_orders_1 : Cond.fieldLink RX4 35 "GaugeBounds$Text" "orders" "I" ∈ wsX4_orders := List.mem_of_getElem? (i := 1) rfl
theorem ii_X4_orders_X4 : ∀ w ∈ wsX40, w ∈ wsX4_orders := fun _ h => List.mem_cons_of_mem _ (List.mem_append_right _ (h))
theorem qvX4_orders : yX4_orders.cls = RX4 ∧ yX4_orders.cls ≠ "java/lang/invoke/MethodHandle" ∧ yX4_orders.cls ≠ "java/lang/invoke/VarHandle" ∧ (parseMethodDescriptor yX4_orders.desc).map (fun d => d.parameters.length) = some 0 := by decide +kernel
set_option maxHeartbeats 4000000 in
set_option maxRecDepth 100000 in
theorem kX4_orders (l : Launch) (E : gEnv) (t : Nat → Nat) (X : Txt) : gMi l E yX4_orders wsX4_orders rX4_orders [.ref (t 0)] (wT E t X) (fX4_orders X) (wT E t X) := by
  refine gMi_of (cc := cX4_orders) (maxL := 1) (ret := (some .int)) (by decide) rfl rfl (Nat.le_of_ble_eq_true rfl) ?_
  intro p e s m args below meth c A Q ls hB hQ
  obtain ⟨hx, hb, hml, hown, hts, hK, hP, hD, hA, hS, hl⟩ := hB
  have hown : s.vm.findClass RX4 = some m.cls := hown
  have hP : va_P E.1 vwCl [(t 0, .inr (4, [.ref (t 1), .int (X.1 0), .ref (t 2), .ref (t 3), .ref (t 4), .int (X.1 1), .int (X.1 2), .int (X.1 3)])), (t 1, .inl (eB E, 120, .inl X.2.1)), (t 2, .inl (eI E, 40, .inl X.2.2.1)), (t 3, .inl (eI E, 40, .inl X.2.2.2.1)), (t 4, .inl (eI E, 40, .inl X.2.2.2.2))] s.heap := hP
  have hD : va_D A [(t 0, .inr (4, [.ref (t 1), .int (X.1 0), .ref (t 2), .ref (t 3), .ref (t 4), .int (X.1 1), .int (X.1 2), .int (X.1 3)])), (t 1, .inl (eB E, 120, .inl X.2.1)), (t 2, .inl (eI E, 40, .inl X.2.2.1)), (t 3, .inl (eI E, 40, .inl X.2.2.2.1)), (t 4, .inl (eI E, 40, .inl X.2.2.2.2))] := hD
  have hl : lv_has ls 1 [(0, .ref (t 0))] := hl
  refine lv_aload_n (pc := 0) hx hb dX4_orders_0 rfl (lv_at hl 0 rfl) ?_
  refine g_get (v := .int (X.1 1)) (pc := 1) hx hb hts ii_X4_orders_X4 hown hK.1 hP 0 rfl rfl 5 (by decide) ⟨rfl, rfl, rfl⟩ mm_X4_orders_1 rfl dX4_orders_1 ?_
  exact hQ _ _ _ _ _ rfl hP hD hS dX4_orders_4

def fX4_place (X : Txt) : Int32 :=
  X.1 2
abbrev rX4_place : Room := { frames := 0, cells := 0, slots := 0, locals := 0 }
theorem mm_X4_place_1 : Cond.fieldLink RX4 38 "GaugeBounds$Text" "place" "I" ∈ wsX4_place := List.mem_of_getElem? (i := 1) rfl
theorem ii_X4_place_X4 : ∀ w ∈ wsX40, w ∈ wsX4_place := fun _ h => List.mem_cons_of_mem _ (List.mem_append_right _ (h))
theorem qvX4_place : yX4_place.cls = RX4 ∧ yX4_place.cls ≠ "java/lang/invoke/MethodHandle" ∧ yX4_place.cls ≠ "java/lang/invoke/VarHandle" ∧ (parseMethodDescriptor yX4_place.desc).map (fun d => d.parameters.length) = some 0 := by decide +kernel
set_option maxHeartbeats 4000000 in
set_option maxRecDepth 100000 in
theorem kX4_place (l : Launch) (E : gEnv) (t : Nat → Nat) (X : Txt) : gMi l E yX4_place wsX4_place rX4_place [.ref (t 0)] (wT E t X) (fX4_place X) (wT E t X) := by
  refine gMi_of (cc := cX4_place) (maxL := 1) (ret := (some .int)) (by decide) rfl rfl (Nat.le_of_ble_eq_true rfl) ?_
  intro p e s m args below meth c A Q ls hB hQ
  obtain ⟨hx, hb, hml, hown, hts, hK, hP, hD, hA, hS, hl⟩ := hB
  have hown : s.vm.findClass RX4 = some m.cls := hown
  have hP : va_P E.1 vwCl [(t 0, .inr (4, [.ref (t 1), .int (X.1 0), .ref (t 2), .ref (t 3), .ref (t 4), .int (X.1 1), .int (X.1 2), .int (X.1 3)])), (t 1, .inl (eB E, 120, .inl X.2.1)), (t 2, .inl (eI E, 40, .inl X.2.2.1)), (t 3, .inl (eI E, 40, .inl X.2.2.2.1)), (t 4, .inl (eI E, 40, .inl X.2.2.2.2))] s.heap := hP
  have hD : va_D A [(t 0, .inr (4, [.ref (t 1), .int (X.1 0), .ref (t 2), .ref (t 3), .ref (t 4), .int (X.1 1), .int (X.1 2), .int (X.1 3)])), (t 1, .inl (eB E, 120, .inl X.2.1)), (t 2, .inl (eI E, 40, .inl X.2.2.1)), (t 3, .inl (eI E, 40, .inl X.2.2.2.1)), (t 4, .inl (eI E, 40, .inl X.2.2.2.2))] := hD
  have hl : lv_has ls 1 [(0, .ref (t 0))] := hl
  refine lv_aload_n (pc := 0) hx hb dX4_place_0 rfl (lv_at hl 0 rfl) ?_
  refine g_get (v := .int (X.1 2)) (pc := 1) hx hb hts ii_X4_place_X4 hown hK.1 hP 0 rfl rfl 6 (by decide) ⟨rfl, rfl, rfl⟩ mm_X4_place_1 rfl dX4_place_1 ?_
  exact hQ _ _ _ _ _ rfl hP hD hS dX4_place_4

def fX4_empty (X : Txt) : Int32 × (Txt) :=
  let x1 : Int32 := X.1 0
  (x1, ((upd X.1 0 0), X.2.1, X.2.2.1, X.2.2.2.1, X.2.2.2.2))
abbrev rX4_empty : Room := { frames := 0, cells := 0, slots := 0, locals := 0 }
theorem mm_X4_empty_1 : Cond.fieldLink RX4 25 "GaugeBounds$Text" "length" "I" ∈ wsX4_empty := List.mem_of_getElem? (i := 1) rfl
theorem ii_X4_empty_X4 : ∀ w ∈ wsX40, w ∈ wsX4_empty := fun _ h => List.mem_cons_of_mem _ (List.mem_append_right _ (h))
theorem qvX4_empty : yX4_empty.cls = RX4 ∧ yX4_empty.cls ≠ "java/lang/invoke/MethodHandle" ∧ yX4_empty.cls ≠ "java/lang/invoke/VarHandle" ∧ (parseMethodDescriptor yX4_empty.desc).map (fun d => d.parameters.length) = some 0 := by decide +kernel
set_option maxHeartbeats 4000000 in
set_option maxRecDepth 100000 in
theorem kX4_empty (l : Launch) (E : gEnv) (t : Nat → Nat) (X : Txt) : gMi l E yX4_empty wsX4_empty rX4_empty [.ref (t 0)] (wT E t X) (fX4_empty X).1 (wT E t ((fX4_empty X).2)) := by
  refine gMi_of (cc := cX4_empty) (maxL := 2) (ret := (some .int)) (by decide) rfl rfl (Nat.le_of_ble_eq_true rfl) ?_
  intro p e s m args below meth c A Q ls hB hQ
  obtain ⟨hx, hb, hml, hown, hts, hK, hP, hD, hA, hS, hl⟩ := hB
  have hown : s.vm.findClass RX4 = some m.cls := hown
  have hP : va_P E.1 vwCl [(t 0, .inr (4, [.ref (t 1), .int (X.1 0), .ref (t 2), .ref (t 3), .ref (t 4), .int (X.1 1), .int (X.1 2), .int (X.1 3)])), (t 1, .inl (eB E, 120, .inl X.2.1)), (t 2, .inl (eI E, 40, .inl X.2.2.1)), (t 3, .inl (eI E, 40, .inl X.2.2.2.1)), (t 4, .inl (eI E, 40, .inl X.2.2.2.2))] s.heap := hP
  have hD : va_D A [(t 0, .inr (4, [.ref (t 1), .int (X.1 0), .ref (t 2), .ref (t 3), .ref (t 4), .int (X.1 1), .int (X.1 2), .int (X.1 3)])), (t 1, .inl (eB E, 120, .inl X.2.1)), (t 2, .inl (eI E, 40, .inl X.2.2.1)), (t 3, .inl (eI E, 40, .inl X.2.2.2.1)), (t 4, .inl (eI E, 40, .inl X.2.2.2.2))] := hD
  have hl : lv_has ls 2 [(0, .ref (t 0))] := hl
  refine lv_aload_n (pc := 0) hx hb dX4_empty_0 rfl (lv_at hl 0 rfl) ?_
  refine g_get (v := .int (X.1 0)) (pc := 1) hx hb hts ii_X4_empty_X4 hown hK.1 hP 0 rfl rfl 1 (by decide) ⟨rfl, rfl, rfl⟩ mm_X4_empty_1 rfl dX4_empty_1 ?_
  refine g_topi (fun x1 ex1 => ?_)
  refine lv_istore_n (lv' := [(1, .int x1), (0, .ref (t 0))]) (pc := 4) hx hb dX4_empty_4 rfl hl (by decide) rfl (fun ls hl => ?_)
  refine lv_aload_n (pc := 5) hx hb dX4_empty_5 rfl (lv_at hl 1 rfl) ?_
  refine lv_iconst (v := 0) (pc := 6) hx hb dX4_empty_6 rfl ?_
  refine g_put (w1 := [(t 0, .inr (4, [.ref (t 1), .int 0, .ref (t 2), .ref (t 3), .ref (t 4), .int (X.1 1), .int (X.1 2), .int (X.1 3)])), (t 1, .inl (eB E, 120, .inl X.2.1)), (t 2, .inl (eI E, 40, .inl X.2.2.1)), (t 3, .inl (eI E, 40, .inl X.2.2.2.1)), (t 4, .inl (eI E, 40, .inl X.2.2.2.2))]) (pc := 7) hx hb hts ii_X4_empty_X4 tyX4 tyX4_ok nmX4 hown hK.1 hP hD hS 0 rfl rfl 1 (by decide) ⟨rfl, rfl, rfl⟩ mm_X4_empty_1 rfl rfl rfl rfl (Nat.le_of_ble_eq_true rfl) rfl dX4_empty_7 (fun H locs hP hD hS => ?_)
  refine lv_iload_n (pc := 10) hx hb dX4_empty_10 rfl (lv_at hl 0 rfl) ?_
  subst ex1
  exact hQ _ _ _ _ _ rfl hP hD hS dX4_empty_11

def fX4_append (X : Txt) (v : Int32) : Int32 × (Txt) :=
  let r1 : Int32 := fX5_within v 0 127
  if r1 = 0 then
    ((-10000002), X)
  else
    if (X.1 0) < 120 then
      let x4 : Int32 := (X.1 0) + 1
      (x4, ((upd X.1 0 x4), (upd X.2.1 ((X.1 0).toNatClampNeg) (vp_nar .byte v.toInt8.toInt32)), X.2.2.1, X.2.2.2.1, X.2.2.2.2))
    else
      ((-10000004), X)
abbrev rX4_append : Room := { frames := 1, cells := 0, slots := 0, locals := 22 }
theorem mm_X4_append_6 : Cond.initialized RX5 ∈ wsX4_append := List.mem_of_getElem? (i := 6) rfl
theorem mm_X4_append_5 : Cond.static yX5_within ∈ wsX4_append := List.mem_of_getElem? (i := 5) rfl
theorem mm_X4_append_2 : Cond.fieldLink RX4 25 "GaugeBounds$Text" "length" "I" ∈ wsX4_append := List.mem_of_getElem? (i := 2) rfl
theorem mm_X4_append_4 : Cond.fieldLink RX4 11 "GaugeBounds$Text" "bytes" "[B" ∈ wsX4_append := List.mem_of_getElem? (i := 4) rfl
theorem mm_X4_append_3 : Cond.constant RX4 34 (-10000004) ∈ wsX4_append := List.mem_of_getElem? (i := 3) rfl
theorem mm_X4_append_1 : Cond.constant RX4 33 (-10000002) ∈ wsX4_append := List.mem_of_getElem? (i := 1) rfl
theorem ii_X4_append_X4 : ∀ w ∈ wsX40, w ∈ wsX4_append := fun _ h => List.mem_cons_of_mem _ (List.mem_append_right _ (h))
theorem qvX4_append : yX4_append.cls = RX4 ∧ yX4_append.cls ≠ "java/lang/invoke/MethodHandle" ∧ yX4_append.cls ≠ "java/lang/invoke/VarHandle" ∧ (parseMethodDescriptor yX4_append.desc).map (fun d => d.parameters.length) = some 1 := by decide +kernel
set_option maxHeartbeats 4000000 in
set_option maxRecDepth 100000 in
theorem kX4_append (l : Launch) (E : gEnv) (t : Nat → Nat) (X : Txt) (v : Int32) (hb0 : 0 ≤ (X.1 0).toInt ∧ (X.1 0).toInt ≤ 120) : gMi l E yX4_append wsX4_append rX4_append [.ref (t 0), .int v] (wT E t X) (fX4_append X v).1 (wT E t ((fX4_append X v).2)) := by
  refine gMi_of (cc := cX4_append) (maxL := 2) (ret := (some .int)) (by decide) rfl rfl (Nat.le_of_ble_eq_true rfl) ?_
  intro p e s m args below meth c A Q ls hB hQ
  obtain ⟨hx, hb, hml, hown, hts, hK, hP, hD, hA, hS, hl⟩ := hB
  have hown : s.vm.findClass RX4 = some m.cls := hown
  have hP : va_P E.1 vwCl [(t 0, .inr (4, [.ref (t 1), .int (X.1 0), .ref (t 2), .ref (t 3), .ref (t 4), .int (X.1 1), .int (X.1 2), .int (X.1 3)])), (t 1, .inl (eB E, 120, .inl X.2.1)), (t 2, .inl (eI E, 40, .inl X.2.2.1)), (t 3, .inl (eI E, 40, .inl X.2.2.2.1)), (t 4, .inl (eI E, 40, .inl X.2.2.2.2))] s.heap := hP
  have hD : va_D A [(t 0, .inr (4, [.ref (t 1), .int (X.1 0), .ref (t 2), .ref (t 3), .ref (t 4), .int (X.1 1), .int (X.1 2), .int (X.1 3)])), (t 1, .inl (eB E, 120, .inl X.2.1)), (t 2, .inl (eI E, 40, .inl X.2.2.1)), (t 3, .inl (eI E, 40, .inl X.2.2.2.1)), (t 4, .inl (eI E, 40, .inl X.2.2.2.2))] := hD
  have hl : lv_has ls 2 [(0, .ref (t 0)), (1, .int v)] := hl
  refine lv_iload_n (pc := 0) hx hb dX4_append_0 rfl (lv_at hl 1 rfl) ?_
  refine lv_iconst (v := 0) (pc := 1) hx hb dX4_append_1 rfl ?_
  refine lv_bipush (v := 127) (pc := 2) hx hb dX4_append_2 rfl ?_
  obtain ⟨r1, er1⟩ : ∃ z : Int32, fX5_within v 0 127 = z := ⟨_, rfl⟩
  have hr1 := kX5_within l E v 0 127
  rw [er1] at hr1
  refine gcNi (pc := 4) (As := [.int v, .int 0, .int 127]) (rest := []) ⟨hx, hb, hml, hown, hts⟩ hr1 ⟨va_cnB 3 hts ggX4_append_X5_within rfl rfl rfl hK.2.2.2.2 (hts _ mm_X4_append_6) qnX5_within ⟨Nat.le_of_ble_eq_true rfl, Nat.le_of_ble_eq_true rfl⟩, hts _ mm_X4_append_5, trivial⟩ hK hP hD hS hA rfl hl.1 rfl (Nat.le_of_ble_eq_true rfl) dX4_append_4 ⟨Nat.zero_le _, Nat.zero_le _⟩ (fun H locs hP hD hS => ?_)
  refine lv_if_ne (tgt := 13) (pc := 7) hx hb dX4_append_7 (by decide) (fun c_2 => ?_) (fun c_2 => ?_)
  · refine lv_aload_n (pc := 13) hx hb dX4_append_13 rfl (lv_at hl 0 rfl) ?_
    refine g_get (v := .int (X.1 0)) (pc := 14) hx hb hts ii_X4_append_X4 hown hK.1 hP 0 rfl rfl 1 (by decide) ⟨rfl, rfl, rfl⟩ mm_X4_append_2 rfl dX4_append_14 ?_
    refine lv_bipush (v := 120) (pc := 17) hx hb dX4_append_17 rfl ?_
    refine lv_icmp_lt (tgt := 25) (pc := 19) hx hb dX4_append_19 (by decide) (fun c_3 => ?_) (fun c_3 => ?_)
    · refine lv_aload_n (pc := 25) hx hb dX4_append_25 rfl (lv_at hl 0 rfl) ?_
      refine g_get (v := .ref (t 1)) (pc := 26) hx hb hts ii_X4_append_X4 hown hK.1 hP 0 rfl rfl 0 (by decide) ⟨rfl, rfl, rfl⟩ mm_X4_append_4 rfl dX4_append_26 ?_
      refine lv_aload_n (pc := 29) hx hb dX4_append_29 rfl (lv_at hl 0 rfl) ?_
      refine g_get (v := .int (X.1 0)) (pc := 30) hx hb hts ii_X4_append_X4 hown hK.1 hP 0 rfl rfl 1 (by decide) ⟨rfl, rfl, rfl⟩ mm_X4_append_2 rfl dX4_append_30 ?_
      refine lv_iload_n (pc := 33) hx hb dX4_append_33 rfl (lv_at hl 1 rfl) ?_
      refine lv_i2b (v := v.toInt8.toInt32) (pc := 34) hx hb dX4_append_34 rfl ?_
      refine g_bast (j := (X.1 0).toNatClampNeg) (w1 := [(t 0, .inr (4, [.ref (t 1), .int (X.1 0), .ref (t 2), .ref (t 3), .ref (t 4), .int (X.1 1), .int (X.1 2), .int (X.1 3)])), (t 1, .inl (eB E, 120, .inl (upd X.2.1 ((X.1 0).toNatClampNeg) (vp_nar .byte v.toInt8.toInt32)))), (t 2, .inl (eI E, 40, .inl X.2.2.1)), (t 3, .inl (eI E, 40, .inl X.2.2.2.1)), (t 4, .inl (eI E, 40, .inl X.2.2.2.2))]) (pc := 35) hx hb hK.1 hP hD hS 1 2 rfl rfl (ap_in hb0 c_3) rfl rfl dX4_append_35 (fun H locs hP hD hS => ?_)
      refine lv_aload_n (pc := 36) hx hb dX4_append_36 rfl (lv_at hl 0 rfl) ?_
      refine lv_dup (pc := 37) hx hb dX4_append_37 rfl ?_
      refine g_get (v := .int (X.1 0)) (pc := 38) hx hb hts ii_X4_append_X4 hown hK.1 hP 0 rfl rfl 1 (by decide) ⟨rfl, rfl, rfl⟩ mm_X4_append_2 rfl dX4_append_38 ?_
      refine lv_iconst (v := 1) (pc := 41) hx hb dX4_append_41 rfl ?_
      refine lv_iadd (pc := 42) hx hb dX4_append_42 ?_
      refine g_topi (fun x4 ex4 => ?_)
      refine g_put (w1 := [(t 0, .inr (4, [.ref (t 1), .int x4, .ref (t 2), .ref (t 3), .ref (t 4), .int (X.1 1), .int (X.1 2), .int (X.1 3)])), (t 1, .inl (eB E, 120, .inl (upd X.2.1 ((X.1 0).toNatClampNeg) (vp_nar .byte v.toInt8.toInt32)))), (t 2, .inl (eI E, 40, .inl X.2.2.1)), (t 3, .inl (eI E, 40, .inl X.2.2.2.1)), (t 4, .inl (eI E, 40, .inl X.2.2.2.2))]) (pc := 43) hx hb hts ii_X4_append_X4 tyX4 tyX4_ok nmX4 hown hK.1 hP hD hS 0 rfl rfl 1 (by decide) ⟨rfl, rfl, rfl⟩ mm_X4_append_2 rfl rfl rfl rfl (Nat.le_of_ble_eq_true rfl) rfl dX4_append_43 (fun H locs hP hD hS => ?_)
      refine lv_aload_n (pc := 46) hx hb dX4_append_46 rfl (lv_at hl 0 rfl) ?_
      refine g_get (v := .int x4) (pc := 47) hx hb hts ii_X4_append_X4 hown hK.1 hP 0 rfl rfl 1 (by decide) ⟨rfl, rfl, rfl⟩ mm_X4_append_2 rfl dX4_append_47 ?_
      subst ex4
      subst er1
      have hfn : fX4_append X v = _ := (if_neg c_2).trans (if_pos c_3)
      rw [hfn] at hQ
      exact hQ _ _ _ _ _ rfl hP hD hS dX4_append_50
    · refine lv_ldc (v := (-10000004)) (pc := 22) hx hb hown (hts _ mm_X4_append_3) dX4_append_22 ?_
      subst er1
      have hfn : fX4_append X v = _ := (if_neg c_2).trans (if_neg c_3)
      rw [hfn] at hQ
      exact hQ _ _ _ _ _ rfl hP hD hS dX4_append_24
  · refine lv_ldc (v := (-10000002)) (pc := 10) hx hb hown (hts _ mm_X4_append_1) dX4_append_10 ?_
    subst er1
    have hfn : fX4_append X v = _ := if_pos c_2
    rw [hfn] at hQ
    exact hQ _ _ _ _ _ rfl hP hD hS dX4_append_12

def fX4_kindOf (X : Txt) (v : Int32) : Int32 :=
  let r1 : Int32 := fX5_within v 0 ((X.1 1) - 1)
  let x3 : Int32 := (if r1 = 0 then 0 else (X.2.2.1 v.toNatClampNeg))
  x3
abbrev rX4_kindOf : Room := { frames := 1, cells := 0, slots := 0, locals := 22 }
theorem mm_X4_kindOf_1 : Cond.fieldLink RX4 35 "GaugeBounds$Text" "orders" "I" ∈ wsX4_kindOf := List.mem_of_getElem? (i := 1) rfl
theorem mm_X4_kindOf_4 : Cond.initialized RX5 ∈ wsX4_kindOf := List.mem_of_getElem? (i := 4) rfl
theorem mm_X4_kindOf_3 : Cond.static yX5_within ∈ wsX4_kindOf := List.mem_of_getElem? (i := 3) rfl
theorem mm_X4_kindOf_2 : Cond.fieldLink RX4 15 "GaugeBounds$Text" "kinds" "[I" ∈ wsX4_kindOf := List.mem_of_getElem? (i := 2) rfl
theorem ii_X4_kindOf_X4 : ∀ w ∈ wsX40, w ∈ wsX4_kindOf := fun _ h => List.mem_cons_of_mem _ (List.mem_append_right _ (h))
theorem qvX4_kindOf : yX4_kindOf.cls = RX4 ∧ yX4_kindOf.cls ≠ "java/lang/invoke/MethodHandle" ∧ yX4_kindOf.cls ≠ "java/lang/invoke/VarHandle" ∧ (parseMethodDescriptor yX4_kindOf.desc).map (fun d => d.parameters.length) = some 1 := by decide +kernel
set_option maxHeartbeats 4000000 in
set_option maxRecDepth 100000 in
theorem kX4_kindOf (l : Launch) (E : gEnv) (t : Nat → Nat) (X : Txt) (v : Int32) (ho : 0 ≤ (X.1 1).toInt ∧ (X.1 1).toInt ≤ 40) : gMi l E yX4_kindOf wsX4_kindOf rX4_kindOf [.ref (t 0), .int v] (wT E t X) (fX4_kindOf X v) (wT E t X) := by
  refine gMi_of (cc := cX4_kindOf) (maxL := 2) (ret := (some .int)) (by decide) rfl rfl (Nat.le_of_ble_eq_true rfl) ?_
  intro p e s m args below meth c A Q ls hB hQ
  obtain ⟨hx, hb, hml, hown, hts, hK, hP, hD, hA, hS, hl⟩ := hB
  have hown : s.vm.findClass RX4 = some m.cls := hown
  have hP : va_P E.1 vwCl [(t 0, .inr (4, [.ref (t 1), .int (X.1 0), .ref (t 2), .ref (t 3), .ref (t 4), .int (X.1 1), .int (X.1 2), .int (X.1 3)])), (t 1, .inl (eB E, 120, .inl X.2.1)), (t 2, .inl (eI E, 40, .inl X.2.2.1)), (t 3, .inl (eI E, 40, .inl X.2.2.2.1)), (t 4, .inl (eI E, 40, .inl X.2.2.2.2))] s.heap := hP
  have hD : va_D A [(t 0, .inr (4, [.ref (t 1), .int (X.1 0), .ref (t 2), .ref (t 3), .ref (t 4), .int (X.1 1), .int (X.1 2), .int (X.1 3)])), (t 1, .inl (eB E, 120, .inl X.2.1)), (t 2, .inl (eI E, 40, .inl X.2.2.1)), (t 3, .inl (eI E, 40, .inl X.2.2.2.1)), (t 4, .inl (eI E, 40, .inl X.2.2.2.2))] := hD
  have hl : lv_has ls 2 [(0, .ref (t 0)), (1, .int v)] := hl
  refine lv_iload_n (pc := 0) hx hb dX4_kindOf_0 rfl (lv_at hl 1 rfl) ?_
  refine lv_iconst (v := 0) (pc := 1) hx hb dX4_kindOf_1 rfl ?_
  refine lv_aload_n (pc := 2) hx hb dX4_kindOf_2 rfl (lv_at hl 0 rfl) ?_
  refine g_get (v := .int (X.1 1)) (pc := 3) hx hb hts ii_X4_kindOf_X4 hown hK.1 hP 0 rfl rfl 5 (by decide) ⟨rfl, rfl, rfl⟩ mm_X4_kindOf_1 rfl dX4_kindOf_3 ?_
  refine lv_iconst (v := 1) (pc := 6) hx hb dX4_kindOf_6 rfl ?_
  refine lv_isub (pc := 7) hx hb dX4_kindOf_7 ?_
  obtain ⟨r1, er1⟩ : ∃ z : Int32, fX5_within v 0 ((X.1 1) - 1) = z := ⟨_, rfl⟩
  have hr1 := kX5_within l E v 0 ((X.1 1) - 1)
  rw [er1] at hr1
  refine gcNi (pc := 8) (As := [.int v, .int 0, .int ((X.1 1) - 1)]) (rest := []) ⟨hx, hb, hml, hown, hts⟩ hr1 ⟨va_cnB 3 hts ggX4_kindOf_X5_within rfl rfl rfl hK.2.2.2.2 (hts _ mm_X4_kindOf_4) qnX5_within ⟨Nat.le_of_ble_eq_true rfl, Nat.le_of_ble_eq_true rfl⟩, hts _ mm_X4_kindOf_3, trivial⟩ hK hP hD hS hA rfl hl.1 rfl (Nat.le_of_ble_eq_true rfl) dX4_kindOf_8 ⟨Nat.zero_le _, Nat.zero_le _⟩ (fun H locs hP hD hS => ?_)
  have J_4 : ∀ (H : Heap) (locs : List Loc) (ls : Array Slot) (x3 : Int32), (if r1 = 0 then 0 else (X.2.2.1 v.toNatClampNeg)) = x3 → va_P E.1 vwCl [(t 0, .inr (4, [.ref (t 1), .int (X.1 0), .ref (t 2), .ref (t 3), .ref (t 4), .int (X.1 1), .int (X.1 2), .int (X.1 3)])), (t 1, .inl (eB E, 120, .inl X.2.1)), (t 2, .inl (eI E, 40, .inl X.2.2.1)), (t 3, .inl (eI E, 40, .inl X.2.2.2.1)), (t 4, .inl (eI E, 40, .inl X.2.2.2.2))] H → va_D A [(t 0, .inr (4, [.ref (t 1), .int (X.1 0), .ref (t 2), .ref (t 3), .ref (t 4), .int (X.1 1), .int (X.1 2), .int (X.1 3)])), (t 1, .inl (eB E, 120, .inl X.2.1)), (t 2, .inl (eI E, 40, .inl X.2.2.1)), (t 3, .inl (eI E, 40, .inl X.2.2.2.1)), (t 4, .inl (eI E, 40, .inl X.2.2.2.2))] → va_S A s.heap H locs → lv_has ls 2 [(0, .ref (t 0)), (1, .int v)] → W p l e rX4_kindOf s m args below meth c H locs 0 0 Q (F0 m 24 ls [.int x3]) := by
    intro H locs ls x3 ex3 hP hD hS hl
    subst ex3
    subst er1
    exact hQ _ _ _ _ _ rfl hP hD hS dX4_kindOf_24
  refine lv_if_eq (tgt := 23) (pc := 11) hx hb dX4_kindOf_11 (by decide) (fun c_2 => ?_) (fun c_2 => ?_)
  · refine lv_iconst (v := 0) (pc := 23) hx hb dX4_kindOf_23 rfl ?_
    exact J_4 _ _ _ _ (if_pos c_2) hP hD hS (lv_sub hl [0, 1] rfl)
  · refine lv_aload_n (pc := 14) hx hb dX4_kindOf_14 rfl (lv_at hl 0 rfl) ?_
    refine g_get (v := .ref (t 2)) (pc := 15) hx hb hts ii_X4_kindOf_X4 hown hK.1 hP 0 rfl rfl 2 (by decide) ⟨rfl, rfl, rfl⟩ mm_X4_kindOf_2 rfl dX4_kindOf_15 ?_
    refine lv_iload_n (pc := 18) hx hb dX4_kindOf_18 rfl (lv_at hl 1 rfl) ?_
    refine g_iald (j := v.toNatClampNeg) (v := (X.2.2.1 v.toNatClampNeg)) (pc := 19) hx hb hK.1 hP 2 0 rfl rfl (by subst er1; exact kd_in ho c_2) rfl rfl dX4_kindOf_19 ?_
    refine lv_goto (tgt := 24) (pc := 20) hx hb dX4_kindOf_20 (by decide) ?_
    exact J_4 _ _ _ _ (if_neg c_2) hP hD hS (lv_sub hl [0, 1] rfl)

def fX4_firstOf (X : Txt) (v : Int32) : Int32 :=
  let r1 : Int32 := fX5_within v 0 ((X.1 1) - 1)
  let x3 : Int32 := (if r1 = 0 then 0 else (X.2.2.2.1 v.toNatClampNeg))
  x3
abbrev rX4_firstOf : Room := { frames := 1, cells := 0, slots := 0, locals := 22 }
theorem mm_X4_firstOf_1 : Cond.fieldLink RX4 35 "GaugeBounds$Text" "orders" "I" ∈ wsX4_firstOf := List.mem_of_getElem? (i := 1) rfl
theorem mm_X4_firstOf_4 : Cond.initialized RX5 ∈ wsX4_firstOf := List.mem_of_getElem? (i := 4) rfl
theorem mm_X4_firstOf_3 : Cond.static yX5_within ∈ wsX4_firstOf := List.mem_of_getElem? (i := 3) rfl
theorem mm_X4_firstOf_2 : Cond.fieldLink RX4 19 "GaugeBounds$Text" "firsts" "[I" ∈ wsX4_firstOf := List.mem_of_getElem? (i := 2) rfl
theorem ii_X4_firstOf_X4 : ∀ w ∈ wsX40, w ∈ wsX4_firstOf := fun _ h => List.mem_cons_of_mem _ (List.mem_append_right _ (h))
theorem qvX4_firstOf : yX4_firstOf.cls = RX4 ∧ yX4_firstOf.cls ≠ "java/lang/invoke/MethodHandle" ∧ yX4_firstOf.cls ≠ "java/lang/invoke/VarHandle" ∧ (parseMethodDescriptor yX4_firstOf.desc).map (fun d => d.parameters.length) = some 1 := by decide +kernel
set_option maxHeartbeats 4000000 in
set_option maxRecDepth 100000 in
theorem kX4_firstOf (l : Launch) (E : gEnv) (t : Nat → Nat) (X : Txt) (v : Int32) (ho : 0 ≤ (X.1 1).toInt ∧ (X.1 1).toInt ≤ 40) : gMi l E yX4_firstOf wsX4_firstOf rX4_firstOf [.ref (t 0), .int v] (wT E t X) (fX4_firstOf X v) (wT E t X) := by
  refine gMi_of (cc := cX4_firstOf) (maxL := 2) (ret := (some .int)) (by decide) rfl rfl (Nat.le_of_ble_eq_true rfl) ?_
  intro p e s m args below meth c A Q ls hB hQ
  obtain ⟨hx, hb, hml, hown, hts, hK, hP, hD, hA, hS, hl⟩ := hB
  have hown : s.vm.findClass RX4 = some m.cls := hown
  have hP : va_P E.1 vwCl [(t 0, .inr (4, [.ref (t 1), .int (X.1 0), .ref (t 2), .ref (t 3), .ref (t 4), .int (X.1 1), .int (X.1 2), .int (X.1 3)])), (t 1, .inl (eB E, 120, .inl X.2.1)), (t 2, .inl (eI E, 40, .inl X.2.2.1)), (t 3, .inl (eI E, 40, .inl X.2.2.2.1)), (t 4, .inl (eI E, 40, .inl X.2.2.2.2))] s.heap := hP
  have hD : va_D A [(t 0, .inr (4, [.ref (t 1), .int (X.1 0), .ref (t 2), .ref (t 3), .ref (t 4), .int (X.1 1), .int (X.1 2), .int (X.1 3)])), (t 1, .inl (eB E, 120, .inl X.2.1)), (t 2, .inl (eI E, 40, .inl X.2.2.1)), (t 3, .inl (eI E, 40, .inl X.2.2.2.1)), (t 4, .inl (eI E, 40, .inl X.2.2.2.2))] := hD
  have hl : lv_has ls 2 [(0, .ref (t 0)), (1, .int v)] := hl
  refine lv_iload_n (pc := 0) hx hb dX4_firstOf_0 rfl (lv_at hl 1 rfl) ?_
  refine lv_iconst (v := 0) (pc := 1) hx hb dX4_firstOf_1 rfl ?_
  refine lv_aload_n (pc := 2) hx hb dX4_firstOf_2 rfl (lv_at hl 0 rfl) ?_
  refine g_get (v := .int (X.1 1)) (pc := 3) hx hb hts ii_X4_firstOf_X4 hown hK.1 hP 0 rfl rfl 5 (by decide) ⟨rfl, rfl, rfl⟩ mm_X4_firstOf_1 rfl dX4_firstOf_3 ?_
  refine lv_iconst (v := 1) (pc := 6) hx hb dX4_firstOf_6 rfl ?_
  refine lv_isub (pc := 7) hx hb dX4_firstOf_7 ?_
  obtain ⟨r1, er1⟩ : ∃ z : Int32, fX5_within v 0 ((X.1 1) - 1) = z := ⟨_, rfl⟩
  have hr1 := kX5_within l E v 0 ((X.1 1) - 1)
  rw [er1] at hr1
  refine gcNi (pc := 8) (As := [.int v, .int 0, .int ((X.1 1) - 1)]) (rest := []) ⟨hx, hb, hml, hown, hts⟩ hr1 ⟨va_cnB 3 hts ggX4_firstOf_X5_within rfl rfl rfl hK.2.2.2.2 (hts _ mm_X4_firstOf_4) qnX5_within ⟨Nat.le_of_ble_eq_true rfl, Nat.le_of_ble_eq_true rfl⟩, hts _ mm_X4_firstOf_3, trivial⟩ hK hP hD hS hA rfl hl.1 rfl (Nat.le_of_ble_eq_true rfl) dX4_firstOf_8 ⟨Nat.zero_le _, Nat.zero_le _⟩ (fun H locs hP hD hS => ?_)
  have J_4 : ∀ (H : Heap) (locs : List Loc) (ls : Array Slot) (x3 : Int32), (if r1 = 0 then 0 else (X.2.2.2.1 v.toNatClampNeg)) = x3 → va_P E.1 vwCl [(t 0, .inr (4, [.ref (t 1), .int (X.1 0), .ref (t 2), .ref (t 3), .ref (t 4), .int (X.1 1), .int (X.1 2), .int (X.1 3)])), (t 1, .inl (eB E, 120, .inl X.2.1)), (t 2, .inl (eI E, 40, .inl X.2.2.1)), (t 3, .inl (eI E, 40, .inl X.2.2.2.1)), (t 4, .inl (eI E, 40, .inl X.2.2.2.2))] H → va_D A [(t 0, .inr (4, [.ref (t 1), .int (X.1 0), .ref (t 2), .ref (t 3), .ref (t 4), .int (X.1 1), .int (X.1 2), .int (X.1 3)])), (t 1, .inl (eB E, 120, .inl X.2.1)), (t 2, .inl (eI E, 40, .inl X.2.2.1)), (t 3, .inl (eI E, 40, .inl X.2.2.2.1)), (t 4, .inl (eI E, 40, .inl X.2.2.2.2))] → va_S A s.heap H locs → lv_has ls 2 [(0, .ref (t 0)), (1, .int v)] → W p l e rX4_firstOf s m args below meth c H locs 0 0 Q (F0 m 24 ls [.int x3]) := by
    intro H locs ls x3 ex3 hP hD hS hl
    subst ex3
    subst er1
    exact hQ _ _ _ _ _ rfl hP hD hS dX4_firstOf_24
  refine lv_if_eq (tgt := 23) (pc := 11) hx hb dX4_firstOf_11 (by decide) (fun c_2 => ?_) (fun c_2 => ?_)
  · refine lv_iconst (v := 0) (pc := 23) hx hb dX4_firstOf_23 rfl ?_
    exact J_4 _ _ _ _ (if_pos c_2) hP hD hS (lv_sub hl [0, 1] rfl)
  · refine lv_aload_n (pc := 14) hx hb dX4_firstOf_14 rfl (lv_at hl 0 rfl) ?_
    refine g_get (v := .ref (t 3)) (pc := 15) hx hb hts ii_X4_firstOf_X4 hown hK.1 hP 0 rfl rfl 3 (by decide) ⟨rfl, rfl, rfl⟩ mm_X4_firstOf_2 rfl dX4_firstOf_15 ?_
    refine lv_iload_n (pc := 18) hx hb dX4_firstOf_18 rfl (lv_at hl 1 rfl) ?_
    refine g_iald (j := v.toNatClampNeg) (v := (X.2.2.2.1 v.toNatClampNeg)) (pc := 19) hx hb hK.1 hP 3 0 rfl rfl (by subst er1; exact kd_in ho c_2) rfl rfl dX4_firstOf_19 ?_
    refine lv_goto (tgt := 24) (pc := 20) hx hb dX4_firstOf_20 (by decide) ?_
    exact J_4 _ _ _ _ (if_neg c_2) hP hD hS (lv_sub hl [0, 1] rfl)

def fX4_secondOf (X : Txt) (v : Int32) : Int32 :=
  let r1 : Int32 := fX5_within v 0 ((X.1 1) - 1)
  let x3 : Int32 := (if r1 = 0 then 0 else (X.2.2.2.2 v.toNatClampNeg))
  x3
abbrev rX4_secondOf : Room := { frames := 1, cells := 0, slots := 0, locals := 22 }
theorem mm_X4_secondOf_1 : Cond.fieldLink RX4 35 "GaugeBounds$Text" "orders" "I" ∈ wsX4_secondOf := List.mem_of_getElem? (i := 1) rfl
theorem mm_X4_secondOf_4 : Cond.initialized RX5 ∈ wsX4_secondOf := List.mem_of_getElem? (i := 4) rfl
theorem mm_X4_secondOf_3 : Cond.static yX5_within ∈ wsX4_secondOf := List.mem_of_getElem? (i := 3) rfl
theorem mm_X4_secondOf_2 : Cond.fieldLink RX4 22 "GaugeBounds$Text" "seconds" "[I" ∈ wsX4_secondOf := List.mem_of_getElem? (i := 2) rfl
theorem ii_X4_secondOf_X4 : ∀ w ∈ wsX40, w ∈ wsX4_secondOf := fun _ h => List.mem_cons_of_mem _ (List.mem_append_right _ (h))
theorem qvX4_secondOf : yX4_secondOf.cls = RX4 ∧ yX4_secondOf.cls ≠ "java/lang/invoke/MethodHandle" ∧ yX4_secondOf.cls ≠ "java/lang/invoke/VarHandle" ∧ (parseMethodDescriptor yX4_secondOf.desc).map (fun d => d.parameters.length) = some 1 := by decide +kernel
set_option maxHeartbeats 4000000 in
set_option maxRecDepth 100000 in
theorem kX4_secondOf (l : Launch) (E : gEnv) (t : Nat → Nat) (X : Txt) (v : Int32) (ho : 0 ≤ (X.1 1).toInt ∧ (X.1 1).toInt ≤ 40) : gMi l E yX4_secondOf wsX4_secondOf rX4_secondOf [.ref (t 0), .int v] (wT E t X) (fX4_secondOf X v) (wT E t X) := by
  refine gMi_of (cc := cX4_secondOf) (maxL := 2) (ret := (some .int)) (by decide) rfl rfl (Nat.le_of_ble_eq_true rfl) ?_
  intro p e s m args below meth c A Q ls hB hQ
  obtain ⟨hx, hb, hml, hown, hts, hK, hP, hD, hA, hS, hl⟩ := hB
  have hown : s.vm.findClass RX4 = some m.cls := hown
  have hP : va_P E.1 vwCl [(t 0, .inr (4, [.ref (t 1), .int (X.1 0), .ref (t 2), .ref (t 3), .ref (t 4), .int (X.1 1), .int (X.1 2), .int (X.1 3)])), (t 1, .inl (eB E, 120, .inl X.2.1)), (t 2, .inl (eI E, 40, .inl X.2.2.1)), (t 3, .inl (eI E, 40, .inl X.2.2.2.1)), (t 4, .inl (eI E, 40, .inl X.2.2.2.2))] s.heap := hP
  have hD : va_D A [(t 0, .inr (4, [.ref (t 1), .int (X.1 0), .ref (t 2), .ref (t 3), .ref (t 4), .int (X.1 1), .int (X.1 2), .int (X.1 3)])), (t 1, .inl (eB E, 120, .inl X.2.1)), (t 2, .inl (eI E, 40, .inl X.2.2.1)), (t 3, .inl (eI E, 40, .inl X.2.2.2.1)), (t 4, .inl (eI E, 40, .inl X.2.2.2.2))] := hD
  have hl : lv_has ls 2 [(0, .ref (t 0)), (1, .int v)] := hl
  refine lv_iload_n (pc := 0) hx hb dX4_secondOf_0 rfl (lv_at hl 1 rfl) ?_
  refine lv_iconst (v := 0) (pc := 1) hx hb dX4_secondOf_1 rfl ?_
  refine lv_aload_n (pc := 2) hx hb dX4_secondOf_2 rfl (lv_at hl 0 rfl) ?_
  refine g_get (v := .int (X.1 1)) (pc := 3) hx hb hts ii_X4_secondOf_X4 hown hK.1 hP 0 rfl rfl 5 (by decide) ⟨rfl, rfl, rfl⟩ mm_X4_secondOf_1 rfl dX4_secondOf_3 ?_
  refine lv_iconst (v := 1) (pc := 6) hx hb dX4_secondOf_6 rfl ?_
  refine lv_isub (pc := 7) hx hb dX4_secondOf_7 ?_
  obtain ⟨r1, er1⟩ : ∃ z : Int32, fX5_within v 0 ((X.1 1) - 1) = z := ⟨_, rfl⟩
  have hr1 := kX5_within l E v 0 ((X.1 1) - 1)
  rw [er1] at hr1
  refine gcNi (pc := 8) (As := [.int v, .int 0, .int ((X.1 1) - 1)]) (rest := []) ⟨hx, hb, hml, hown, hts⟩ hr1 ⟨va_cnB 3 hts ggX4_secondOf_X5_within rfl rfl rfl hK.2.2.2.2 (hts _ mm_X4_secondOf_4) qnX5_within ⟨Nat.le_of_ble_eq_true rfl, Nat.le_of_ble_eq_true rfl⟩, hts _ mm_X4_secondOf_3, trivial⟩ hK hP hD hS hA rfl hl.1 rfl (Nat.le_of_ble_eq_true rfl) dX4_secondOf_8 ⟨Nat.zero_le _, Nat.zero_le _⟩ (fun H locs hP hD hS => ?_)
  have J_4 : ∀ (H : Heap) (locs : List Loc) (ls : Array Slot) (x3 : Int32), (if r1 = 0 then 0 else (X.2.2.2.2 v.toNatClampNeg)) = x3 → va_P E.1 vwCl [(t 0, .inr (4, [.ref (t 1), .int (X.1 0), .ref (t 2), .ref (t 3), .ref (t 4), .int (X.1 1), .int (X.1 2), .int (X.1 3)])), (t 1, .inl (eB E, 120, .inl X.2.1)), (t 2, .inl (eI E, 40, .inl X.2.2.1)), (t 3, .inl (eI E, 40, .inl X.2.2.2.1)), (t 4, .inl (eI E, 40, .inl X.2.2.2.2))] H → va_D A [(t 0, .inr (4, [.ref (t 1), .int (X.1 0), .ref (t 2), .ref (t 3), .ref (t 4), .int (X.1 1), .int (X.1 2), .int (X.1 3)])), (t 1, .inl (eB E, 120, .inl X.2.1)), (t 2, .inl (eI E, 40, .inl X.2.2.1)), (t 3, .inl (eI E, 40, .inl X.2.2.2.1)), (t 4, .inl (eI E, 40, .inl X.2.2.2.2))] → va_S A s.heap H locs → lv_has ls 2 [(0, .ref (t 0)), (1, .int v)] → W p l e rX4_secondOf s m args below meth c H locs 0 0 Q (F0 m 24 ls [.int x3]) := by
    intro H locs ls x3 ex3 hP hD hS hl
    subst ex3
    subst er1
    exact hQ _ _ _ _ _ rfl hP hD hS dX4_secondOf_24
  refine lv_if_eq (tgt := 23) (pc := 11) hx hb dX4_secondOf_11 (by decide) (fun c_2 => ?_) (fun c_2 => ?_)
  · refine lv_iconst (v := 0) (pc := 23) hx hb dX4_secondOf_23 rfl ?_
    exact J_4 _ _ _ _ (if_pos c_2) hP hD hS (lv_sub hl [0, 1] rfl)
  · refine lv_aload_n (pc := 14) hx hb dX4_secondOf_14 rfl (lv_at hl 0 rfl) ?_
    refine g_get (v := .ref (t 4)) (pc := 15) hx hb hts ii_X4_secondOf_X4 hown hK.1 hP 0 rfl rfl 4 (by decide) ⟨rfl, rfl, rfl⟩ mm_X4_secondOf_2 rfl dX4_secondOf_15 ?_
    refine lv_iload_n (pc := 18) hx hb dX4_secondOf_18 rfl (lv_at hl 1 rfl) ?_
    refine g_iald (j := v.toNatClampNeg) (v := (X.2.2.2.2 v.toNatClampNeg)) (pc := 19) hx hb hK.1 hP 4 0 rfl rfl (by subst er1; exact kd_in ho c_2) rfl rfl dX4_secondOf_19 ?_
    refine lv_goto (tgt := 24) (pc := 20) hx hb dX4_secondOf_20 (by decide) ?_
    exact J_4 _ _ _ _ (if_neg c_2) hP hD hS (lv_sub hl [0, 1] rfl)
