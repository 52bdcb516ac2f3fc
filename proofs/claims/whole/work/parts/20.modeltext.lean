/-! the reference's text -/
abbrev wMx (E : gEnv) (a : Nat → Nat) (y : Nat → Int32) (n o q : Nat) (wa : Int32) (hs : Int64) (nw sd pt : Nat → Int64) (rf tx lt nu : Nat → Int32) : va_W := [(a 0, .inr (6, [.ref (a 1), .ref (a 2), .ref (a 3), .int (y 0), .ref (a 4), .ref (a 5), .int (nI n), .int (y 2), .int (y 3), .ref (a 6), .ref (a 7), .int (nI o), .int (nI q), .int wa, .long hs])), (a 1, .inl (eJ E, 68, .inr (.inl nw))), (a 2, .inl (eJ E, 68, .inr (.inl sd))), (a 3, .inl (eJ E, 340, .inr (.inl pt))), (a 4, .inl (eI E, 3, .inl rf)), (a 5, .inl (eI E, 120, .inl tx)), (a 6, .inl (eI E, 60, .inl lt)), (a 7, .inl (eI E, 120, .inl nu))]
/-- is a byte from lo to up there -/
def fX6_isAt (tx : Nat → Int32) (n q : Nat) (lo up : Int32) : Int32 := bz (q < n ∧ lo ≤ tx q ∧ tx q ≤ up)

abbrev rX6_isAt : Room := { frames := 1, cells := 0, slots := 0, locals := 25 }
theorem mm_X6_isAt_1 : Cond.fieldLink RX6 148 "GaugeBoundsModel" "spot" "I" ∈ wsX6_isAt := List.mem_of_getElem? (i := 1) rfl
theorem mm_X6_isAt_2 : Cond.fieldLink RX6 144 "GaugeBoundsModel" "bytes" "I" ∈ wsX6_isAt := List.mem_of_getElem? (i := 2) rfl
theorem mm_X6_isAt_3 : Cond.fieldLink RX6 23 "GaugeBoundsModel" "text" "[I" ∈ wsX6_isAt := List.mem_of_getElem? (i := 3) rfl
theorem ii_X6_isAt_X6 : ∀ w ∈ wsX60, w ∈ wsX6_isAt := fun _ h => List.mem_cons_of_mem _ (List.mem_append_right _ (h))
theorem qvX6_isAt : yX6_isAt.cls = RX6 ∧ yX6_isAt.cls ≠ "java/lang/invoke/MethodHandle" ∧ yX6_isAt.cls ≠ "java/lang/invoke/VarHandle" ∧ (parseMethodDescriptor yX6_isAt.desc).map (fun d => d.parameters.length) = some 2 := by decide +kernel
set_option maxHeartbeats 4000000 in
set_option maxRecDepth 100000 in
theorem kX6_isAt (l : Launch) (E : gEnv) (a : Nat → Nat) (y : Nat → Int32) (n o q : Nat) (wa : Int32) (hs : Int64) (nw sd pt : Nat → Int64) (rf tx lt nu : Nat → Int32) (lo : Int32) (up : Int32) (hn : n ≤ 120) (hq : q ≤ n) : gMi l E yX6_isAt wsX6_isAt rX6_isAt [.ref (a 0), .int lo, .int up] (wMx E a y n o q wa hs nw sd pt rf tx lt nu) (fX6_isAt tx n q lo up) (wMx E a y n o q wa hs nw sd pt rf tx lt nu) := by
  refine gMz_of (cc := cX6_isAt) (maxL := 3) (ret := (some .boolean)) (by decide) rfl rfl (Nat.le_of_ble_eq_true rfl) bz_n ?_
  intro p e s m args below meth c A Q ls hB hQ
  obtain ⟨hx, hb, hml, hown, hts, hK, hP, hD, hA, hS, hl⟩ := hB
  have hown : s.vm.findClass RX6 = some m.cls := hown
  have hP : va_P E.1 vwCl [(a 0, .inr (6, [.ref (a 1), .ref (a 2), .ref (a 3), .int (y 0), .ref (a 4), .ref (a 5), .int (nI n), .int (y 2), .int (y 3), .ref (a 6), .ref (a 7), .int (nI o), .int (nI q), .int wa, .long hs])), (a 1, .inl (eJ E, 68, .inr (.inl nw))), (a 2, .inl (eJ E, 68, .inr (.inl sd))), (a 3, .inl (eJ E, 340, .inr (.inl pt))), (a 4, .inl (eI E, 3, .inl rf)), (a 5, .inl (eI E, 120, .inl tx)), (a 6, .inl (eI E, 60, .inl lt)), (a 7, .inl (eI E, 120, .inl nu))] s.heap := hP
  have hD : va_D A [(a 0, .inr (6, [.ref (a 1), .ref (a 2), .ref (a 3), .int (y 0), .ref (a 4), .ref (a 5), .int (nI n), .int (y 2), .int (y 3), .ref (a 6), .ref (a 7), .int (nI o), .int (nI q), .int wa, .long hs])), (a 1, .inl (eJ E, 68, .inr (.inl nw))), (a 2, .inl (eJ E, 68, .inr (.inl sd))), (a 3, .inl (eJ E, 340, .inr (.inl pt))), (a 4, .inl (eI E, 3, .inl rf)), (a 5, .inl (eI E, 120, .inl tx)), (a 6, .inl (eI E, 60, .inl lt)), (a 7, .inl (eI E, 120, .inl nu))] := hD
  have hl : lv_has ls 3 [(0, .ref (a 0)), (1, .int lo), (2, .int up)] := hl
  refine lv_aload_n (pc := 0) hx hb dX6_isAt_0 rfl (lv_at hl 0 rfl) ?_
  refine g_get (v := .int (nI q)) (pc := 1) hx hb hts ii_X6_isAt_X6 hown hK.1 hP 0 rfl rfl 12 (by decide) ⟨rfl, rfl, rfl⟩ mm_X6_isAt_1 rfl dX6_isAt_1 ?_
  refine lv_aload_n (pc := 4) hx hb dX6_isAt_4 rfl (lv_at hl 0 rfl) ?_
  refine g_get (v := .int (nI n)) (pc := 5) hx hb hts ii_X6_isAt_X6 hown hK.1 hP 0 rfl rfl 6 (by decide) ⟨rfl, rfl, rfl⟩ mm_X6_isAt_2 rfl dX6_isAt_5 ?_
  refine lv_icmp_ge (tgt := 35) (pc := 8) hx hb dX6_isAt_8 (by decide) (fun c_1 => ?_) (fun c_1 => ?_)
  · refine lv_iconst (v := 0) (pc := 35) hx hb dX6_isAt_35 rfl ?_
    have hfn : fX6_isAt tx n q lo up = 0 := bz_f (fun h => absurd ((nle (by omega) (by omega)).mp c_1) (Nat.not_le.mpr h.1))
    rw [hfn] at hQ
    exact hQ _ _ _ _ _ rfl hP hD hS dX6_isAt_36
  · refine lv_aload_n (pc := 11) hx hb dX6_isAt_11 rfl (lv_at hl 0 rfl) ?_
    refine g_get (v := .ref (a 5)) (pc := 12) hx hb hts ii_X6_isAt_X6 hown hK.1 hP 0 rfl rfl 5 (by decide) ⟨rfl, rfl, rfl⟩ mm_X6_isAt_3 rfl dX6_isAt_12 ?_
    refine lv_aload_n (pc := 15) hx hb dX6_isAt_15 rfl (lv_at hl 0 rfl) ?_
    refine g_get (v := .int (nI q)) (pc := 16) hx hb hts ii_X6_isAt_X6 hown hK.1 hP 0 rfl rfl 12 (by decide) ⟨rfl, rfl, rfl⟩ mm_X6_isAt_1 rfl dX6_isAt_16 ?_
    refine g_iald (j := q) (v := (tx q)) (pc := 19) hx hb hK.1 hP 5 0 rfl rfl (vp_in_nI (by have := mt (nle (by omega) (by omega)).mpr c_1; omega) (by decide)) (nI_clamp (by omega)) rfl dX6_isAt_19 ?_
    refine lv_i2l (v := (tx q).toInt64) (pc := 20) hx hb dX6_isAt_20 rfl ?_
    refine lv_iload_n (pc := 21) hx hb dX6_isAt_21 rfl (lv_at hl 1 rfl) ?_
    refine lv_i2l (v := lo.toInt64) (pc := 22) hx hb dX6_isAt_22 rfl ?_
    refine lv_iload_n (pc := 23) hx hb dX6_isAt_23 rfl (lv_at hl 2 rfl) ?_
    refine lv_i2l (v := up.toInt64) (pc := 24) hx hb dX6_isAt_24 rfl ?_
    obtain ⟨r2, er2⟩ : ∃ z : Int32, fX6_in ((tx q).toInt64) lo.toInt64 up.toInt64 = z := ⟨_, rfl⟩
    have hr2 := kX6_in l E ((tx q).toInt64) lo.toInt64 up.toInt64
    rw [er2] at hr2
    refine gcSi (pc := 25) (As := [.long ((tx q).toInt64), .long lo.toInt64, .long up.toInt64]) (rest := []) ⟨hx, hb, hml, hown, hts⟩ hr2 (cwS 3 hts gX6_isAt_X6_in rfl rfl rfl qsX6_in ⟨Nat.le_of_ble_eq_true rfl, Nat.le_of_ble_eq_true rfl⟩) hK hP hD hS hA rfl hl.1 rfl (Nat.le_of_ble_eq_true rfl) dX6_isAt_25 ⟨Nat.zero_le _, Nat.zero_le _⟩ (fun H locs hP hD hS => ?_)
    refine lv_if_eq (tgt := 35) (pc := 28) hx hb dX6_isAt_28 (by decide) (fun c_3 => ?_) (fun c_3 => ?_)
    · refine lv_iconst (v := 0) (pc := 35) hx hb dX6_isAt_35 rfl ?_
      subst er2
      have hlt : q < n := by have := mt (nle (by omega) (by omega)).mpr c_1; omega
      simp only [fX6_in, bz_0, Int64.le_iff_toInt_le, Int32.toInt_toInt64] at c_3
      have hfn : fX6_isAt tx n q lo up = 0 := bz_f (fun h => c_3 (by rw [← Int32.le_iff_toInt_le, ← Int32.le_iff_toInt_le]; exact h.2))
      rw [hfn] at hQ
      exact hQ _ _ _ _ _ rfl hP hD hS dX6_isAt_36
    · refine lv_iconst (v := 1) (pc := 31) hx hb dX6_isAt_31 rfl ?_
      refine lv_goto (tgt := 36) (pc := 32) hx hb dX6_isAt_32 (by decide) ?_
      subst er2
      have hlt : q < n := by have := mt (nle (by omega) (by omega)).mpr c_1; omega
      simp only [fX6_in, bz_0, Int64.le_iff_toInt_le, Int32.toInt_toInt64] at c_3
      have hfn : fX6_isAt tx n q lo up = 1 := bz_t ⟨hlt, by rw [Int32.le_iff_toInt_le, Int32.le_iff_toInt_le]; exact Decidable.not_not.mp c_3⟩
      rw [hfn] at hQ
      exact hQ _ _ _ _ _ rfl hP hD hS dX6_isAt_36

theorem ia_lt {tx : Nat → Int32} {n q : Nat} {lo up : Int32} (h : ¬ fX6_isAt tx n q lo up = 0) : q < n := by
  unfold fX6_isAt at h
  rw [bz_0] at h
  exact (Decidable.not_not.mp h).1
theorem ia_b {tx : Nat → Int32} {n q : Nat} (h : q < n) : fX6_isAt tx n q 32 32 = 0 ↔ ¬ tx q = 32 := by
  unfold fX6_isAt
  rw [bz_0]
  refine not_congr ⟨fun g => ?_, fun g => ⟨h, by rw [g]; decide, by rw [g]; decide⟩⟩
  have g1 := g.2.1; have g2 := g.2.2
  rw [Int32.le_iff_toInt_le] at g1 g2
  rw [← Int32.toInt_inj]
  omega
theorem ia_n {tx : Nat → Int32} {n q : Nat} {lo up : Int32} (h : ¬ q < n) : fX6_isAt tx n q lo up = 0 := bz_f (fun g => h g.1)

abbrev rX6_blanks : Room := { frames := 2, cells := 0, slots := 0, locals := 47 }
theorem mm_X6_blanks_1 : Cond.fieldLink RX6 148 "GaugeBoundsModel" "spot" "I" ∈ wsX6_blanks := List.mem_of_getElem? (i := 1) rfl
theorem ii_X6_blanks_X6 : ∀ w ∈ wsX60, w ∈ wsX6_blanks := fun _ h => List.mem_cons_of_mem _ (List.mem_append_right _ (h))
theorem qvX6_blanks : yX6_blanks.cls = RX6 ∧ yX6_blanks.cls ≠ "java/lang/invoke/MethodHandle" ∧ yX6_blanks.cls ≠ "java/lang/invoke/VarHandle" ∧ (parseMethodDescriptor yX6_blanks.desc).map (fun d => d.parameters.length) = some 0 := by decide +kernel
set_option maxHeartbeats 4000000 in
set_option maxRecDepth 100000 in
theorem kX6_blanks (l : Launch) (E : gEnv) (a : Nat → Nat) (y : Nat → Int32) (n o q : Nat) (wa : Int32) (hs : Int64) (nw sd pt : Nat → Int64) (rf tx lt nu : Nat → Int32) (hn : n ≤ 120) (hq : q ≤ n) : gMv l E yX6_blanks wsX6_blanks rX6_blanks [.ref (a 0)] (wMx E a y n o q wa hs nw sd pt rf tx lt nu) (wMx E a y n o (sk tx n q) wa hs nw sd pt rf tx lt nu) := by
  refine gMv_of (cc := cX6_blanks) (maxL := 1) (ret := none) (by decide) rfl rfl (Nat.le_of_ble_eq_true rfl) ?_
  intro p e s m args below meth c A Q ls hB hQ
  obtain ⟨hx, hb, hml, hown, hts, hK, hP, hD, hA, hS, hl⟩ := hB
  have hown : s.vm.findClass RX6 = some m.cls := hown
  have hP : va_P E.1 vwCl [(a 0, .inr (6, [.ref (a 1), .ref (a 2), .ref (a 3), .int (y 0), .ref (a 4), .ref (a 5), .int (nI n), .int (y 2), .int (y 3), .ref (a 6), .ref (a 7), .int (nI o), .int (nI q), .int wa, .long hs])), (a 1, .inl (eJ E, 68, .inr (.inl nw))), (a 2, .inl (eJ E, 68, .inr (.inl sd))), (a 3, .inl (eJ E, 340, .inr (.inl pt))), (a 4, .inl (eI E, 3, .inl rf)), (a 5, .inl (eI E, 120, .inl tx)), (a 6, .inl (eI E, 60, .inl lt)), (a 7, .inl (eI E, 120, .inl nu))] s.heap := hP
  have hD : va_D A [(a 0, .inr (6, [.ref (a 1), .ref (a 2), .ref (a 3), .int (y 0), .ref (a 4), .ref (a 5), .int (nI n), .int (y 2), .int (y 3), .ref (a 6), .ref (a 7), .int (nI o), .int (nI q), .int wa, .long hs])), (a 1, .inl (eJ E, 68, .inr (.inl nw))), (a 2, .inl (eJ E, 68, .inr (.inl sd))), (a 3, .inl (eJ E, 340, .inr (.inl pt))), (a 4, .inl (eI E, 3, .inl rf)), (a 5, .inl (eI E, 120, .inl tx)), (a 6, .inl (eI E, 60, .inl lt)), (a 7, .inl (eI E, 120, .inl nu))] := hD
  have hl : lv_has ls 1 [(0, .ref (a 0))] := hl
  have loop : ∀ (f k : Nat), k + f = n → skF tx f k = sk tx n q → ∀ (H : Heap) (locs : List Loc) (ls : Array Slot), va_P E.1 vwCl [(a 0, .inr (6, [.ref (a 1), .ref (a 2), .ref (a 3), .int (y 0), .ref (a 4), .ref (a 5), .int (nI n), .int (y 2), .int (y 3), .ref (a 6), .ref (a 7), .int (nI o), .int (nI k), .int wa, .long hs])), (a 1, .inl (eJ E, 68, .inr (.inl nw))), (a 2, .inl (eJ E, 68, .inr (.inl sd))), (a 3, .inl (eJ E, 340, .inr (.inl pt))), (a 4, .inl (eI E, 3, .inl rf)), (a 5, .inl (eI E, 120, .inl tx)), (a 6, .inl (eI E, 60, .inl lt)), (a 7, .inl (eI E, 120, .inl nu))] H → va_D A [(a 0, .inr (6, [.ref (a 1), .ref (a 2), .ref (a 3), .int (y 0), .ref (a 4), .ref (a 5), .int (nI n), .int (y 2), .int (y 3), .ref (a 6), .ref (a 7), .int (nI o), .int (nI k), .int wa, .long hs])), (a 1, .inl (eJ E, 68, .inr (.inl nw))), (a 2, .inl (eJ E, 68, .inr (.inl sd))), (a 3, .inl (eJ E, 340, .inr (.inl pt))), (a 4, .inl (eI E, 3, .inl rf)), (a 5, .inl (eI E, 120, .inl tx)), (a 6, .inl (eI E, 60, .inl lt)), (a 7, .inl (eI E, 120, .inl nu))] → va_S A s.heap H locs → lv_has ls 1 [(0, .ref (a 0))] → W p l e rX6_blanks s m args below meth c H locs 0 0 Q (F0 m 0 ls []) := by
    intro f
    induction f with
    | zero =>
      intro k hkn hk H locs ls hP hD hS hl
      obtain rfl : k = n := by omega
      refine lv_aload_n (pc := 0) hx hb dX6_blanks_0 rfl (lv_at hl 0 rfl) ?_
      refine lv_bipush (v := 32) (pc := 1) hx hb dX6_blanks_1 rfl ?_
      refine lv_bipush (v := 32) (pc := 3) hx hb dX6_blanks_3 rfl ?_
      obtain ⟨r1, er1⟩ : ∃ z : Int32, fX6_isAt tx k k 32 32 = z := ⟨_, rfl⟩
      have hr1 := kX6_isAt l E a y k o k wa hs nw sd pt rf tx lt nu 32 32 hn (Nat.le_refl k)
      rw [er1] at hr1
      refine gcVi (pc := 5) (w1 := [(a 0, .inr (6, [.ref (a 1), .ref (a 2), .ref (a 3), .int (y 0), .ref (a 4), .ref (a 5), .int (nI k), .int (y 2), .int (y 3), .ref (a 6), .ref (a 7), .int (nI o), .int (nI k), .int wa, .long hs])), (a 1, .inl (eJ E, 68, .inr (.inl nw))), (a 2, .inl (eJ E, 68, .inr (.inl sd))), (a 3, .inl (eJ E, 340, .inr (.inl pt))), (a 4, .inl (eI E, 3, .inl rf)), (a 5, .inl (eI E, 120, .inl tx)), (a 6, .inl (eI E, 60, .inl lt)), (a 7, .inl (eI E, 120, .inl nu))]) (pre := []) (post := []) (As := [.int 32, .int 32]) (rest := []) (q0 := 0) ⟨hx, hb, hml, hown, hts⟩ hr1 (cwV 2 hts gX6_blanks_X6_isAt rfl rfl rfl qvX6_isAt ⟨Nat.le_of_ble_eq_true rfl, Nat.le_of_ble_eq_true rfl⟩) hK hP hD hS hA rfl rfl rfl rfl rfl hl.1 rfl (Nat.le_of_ble_eq_true rfl) dX6_blanks_5 ⟨Nat.zero_le _, Nat.zero_le _⟩ (fun H locs hP hD hS => ?_)
      refine lv_if_eq (tgt := 24) (pc := 8) hx hb dX6_blanks_8 (by decide) (fun c_2 => ?_) (fun c_2 => ?_)
      rotate_left
      · exact absurd (er1.symm.trans (ia_n (Nat.lt_irrefl k))) c_2
      subst er1
      have hfn : sk tx k q = k := hk.symm
      rw [hfn] at hQ
      exact hQ _ _ _ _ hP hD hS dX6_blanks_24
    | succ f ih =>
      intro k hkn hk H locs ls hP hD hS hl
      have hlt : k < n := by omega
      refine lv_aload_n (pc := 0) hx hb dX6_blanks_0 rfl (lv_at hl 0 rfl) ?_
      refine lv_bipush (v := 32) (pc := 1) hx hb dX6_blanks_1 rfl ?_
      refine lv_bipush (v := 32) (pc := 3) hx hb dX6_blanks_3 rfl ?_
      obtain ⟨r3, er3⟩ : ∃ z : Int32, fX6_isAt tx n k 32 32 = z := ⟨_, rfl⟩
      have hr3 := kX6_isAt l E a y n o k wa hs nw sd pt rf tx lt nu 32 32 hn (Nat.le_of_lt hlt)
      rw [er3] at hr3
      refine gcVi (pc := 5) (w1 := [(a 0, .inr (6, [.ref (a 1), .ref (a 2), .ref (a 3), .int (y 0), .ref (a 4), .ref (a 5), .int (nI n), .int (y 2), .int (y 3), .ref (a 6), .ref (a 7), .int (nI o), .int (nI k), .int wa, .long hs])), (a 1, .inl (eJ E, 68, .inr (.inl nw))), (a 2, .inl (eJ E, 68, .inr (.inl sd))), (a 3, .inl (eJ E, 340, .inr (.inl pt))), (a 4, .inl (eI E, 3, .inl rf)), (a 5, .inl (eI E, 120, .inl tx)), (a 6, .inl (eI E, 60, .inl lt)), (a 7, .inl (eI E, 120, .inl nu))]) (pre := []) (post := []) (As := [.int 32, .int 32]) (rest := []) (q0 := 0) ⟨hx, hb, hml, hown, hts⟩ hr3 (cwV 2 hts gX6_blanks_X6_isAt rfl rfl rfl qvX6_isAt ⟨Nat.le_of_ble_eq_true rfl, Nat.le_of_ble_eq_true rfl⟩) hK hP hD hS hA rfl rfl rfl rfl rfl hl.1 rfl (Nat.le_of_ble_eq_true rfl) dX6_blanks_5 ⟨Nat.zero_le _, Nat.zero_le _⟩ (fun H locs hP hD hS => ?_)
      refine lv_if_eq (tgt := 24) (pc := 8) hx hb dX6_blanks_8 (by decide) (fun c_4 => ?_) (fun c_4 => ?_)
      · subst er3
        rw [ia_b hlt] at c_4
        have hfn : sk tx n q = k := hk.symm.trans (if_neg c_4)
        rw [hfn] at hQ
        exact hQ _ _ _ _ hP hD hS dX6_blanks_24
      · refine lv_aload_n (pc := 11) hx hb dX6_blanks_11 rfl (lv_at hl 0 rfl) ?_
        refine lv_dup (pc := 12) hx hb dX6_blanks_12 rfl ?_
        refine g_get (v := .int (nI k)) (pc := 13) hx hb hts ii_X6_blanks_X6 hown hK.1 hP 0 rfl rfl 12 (by decide) ⟨rfl, rfl, rfl⟩ mm_X6_blanks_1 rfl dX6_blanks_13 ?_
        refine lv_iconst (v := 1) (pc := 16) hx hb dX6_blanks_16 rfl ?_
        refine lv_iadd (pc := 17) hx hb dX6_blanks_17 ?_
        rw [nI_1 k]
        refine g_put (w1 := [(a 0, .inr (6, [.ref (a 1), .ref (a 2), .ref (a 3), .int (y 0), .ref (a 4), .ref (a 5), .int (nI n), .int (y 2), .int (y 3), .ref (a 6), .ref (a 7), .int (nI o), .int (nI (k + 1)), .int wa, .long hs])), (a 1, .inl (eJ E, 68, .inr (.inl nw))), (a 2, .inl (eJ E, 68, .inr (.inl sd))), (a 3, .inl (eJ E, 340, .inr (.inl pt))), (a 4, .inl (eI E, 3, .inl rf)), (a 5, .inl (eI E, 120, .inl tx)), (a 6, .inl (eI E, 60, .inl lt)), (a 7, .inl (eI E, 120, .inl nu))]) (pc := 18) hx hb hts ii_X6_blanks_X6 tyX6 tyX6_ok nmX6 hown hK.1 hP hD hS 0 rfl rfl 12 (by decide) ⟨rfl, rfl, rfl⟩ mm_X6_blanks_1 rfl rfl rfl rfl (Nat.le_of_ble_eq_true rfl) rfl dX6_blanks_18 (fun H locs hP hD hS => ?_)
        refine lv_goto (tgt := 0) (pc := 21) hx hb dX6_blanks_21 (by decide) ?_
        subst er3
        rw [ia_b hlt, Decidable.not_not] at c_4
        exact ih (k + 1) (by omega) ((show skF tx (f + 1) k = skF tx f (k + 1) from if_pos c_4).symm.trans hk) _ _ _ hP hD hS (lv_sub hl [0] rfl)
  exact loop (n - q) q (by omega) rfl _ _ _ hP hD hS (lv_sub hl [0] rfl)

def fX6_fails (q : Nat) : Int32 × Int32 := (0, nI q)
abbrev rX6_fails : Room := { frames := 0, cells := 0, slots := 0, locals := 0 }
theorem mm_X6_fails_1 : Cond.fieldLink RX6 148 "GaugeBoundsModel" "spot" "I" ∈ wsX6_fails := List.mem_of_getElem? (i := 1) rfl
theorem mm_X6_fails_2 : Cond.fieldLink RX6 155 "GaugeBoundsModel" "wrongAt" "I" ∈ wsX6_fails := List.mem_of_getElem? (i := 2) rfl
theorem ii_X6_fails_X6 : ∀ w ∈ wsX60, w ∈ wsX6_fails := fun _ h => List.mem_cons_of_mem _ (List.mem_append_right _ (h))
theorem qvX6_fails : yX6_fails.cls = RX6 ∧ yX6_fails.cls ≠ "java/lang/invoke/MethodHandle" ∧ yX6_fails.cls ≠ "java/lang/invoke/VarHandle" ∧ (parseMethodDescriptor yX6_fails.desc).map (fun d => d.parameters.length) = some 0 := by decide +kernel
set_option maxHeartbeats 4000000 in
set_option maxRecDepth 100000 in
theorem kX6_fails (l : Launch) (E : gEnv) (a : Nat → Nat) (y : Nat → Int32) (n o q : Nat) (wa : Int32) (hs : Int64) (nw sd pt : Nat → Int64) (rf tx lt nu : Nat → Int32) : gMi l E yX6_fails wsX6_fails rX6_fails [.ref (a 0)] (wMx E a y n o q wa hs nw sd pt rf tx lt nu) (fX6_fails q).1 (wMx E a y n o q ((fX6_fails q).2) hs nw sd pt rf tx lt nu) := by
  refine gMz_of (cc := cX6_fails) (maxL := 1) (ret := (some .boolean)) (by decide) rfl rfl (Nat.le_of_ble_eq_true rfl) (zb (Or.inl rfl)) ?_
  intro p e s m args below meth c A Q ls hB hQ
  obtain ⟨hx, hb, hml, hown, hts, hK, hP, hD, hA, hS, hl⟩ := hB
  have hown : s.vm.findClass RX6 = some m.cls := hown
  have hP : va_P E.1 vwCl [(a 0, .inr (6, [.ref (a 1), .ref (a 2), .ref (a 3), .int (y 0), .ref (a 4), .ref (a 5), .int (nI n), .int (y 2), .int (y 3), .ref (a 6), .ref (a 7), .int (nI o), .int (nI q), .int wa, .long hs])), (a 1, .inl (eJ E, 68, .inr (.inl nw))), (a 2, .inl (eJ E, 68, .inr (.inl sd))), (a 3, .inl (eJ E, 340, .inr (.inl pt))), (a 4, .inl (eI E, 3, .inl rf)), (a 5, .inl (eI E, 120, .inl tx)), (a 6, .inl (eI E, 60, .inl lt)), (a 7, .inl (eI E, 120, .inl nu))] s.heap := hP
  have hD : va_D A [(a 0, .inr (6, [.ref (a 1), .ref (a 2), .ref (a 3), .int (y 0), .ref (a 4), .ref (a 5), .int (nI n), .int (y 2), .int (y 3), .ref (a 6), .ref (a 7), .int (nI o), .int (nI q), .int wa, .long hs])), (a 1, .inl (eJ E, 68, .inr (.inl nw))), (a 2, .inl (eJ E, 68, .inr (.inl sd))), (a 3, .inl (eJ E, 340, .inr (.inl pt))), (a 4, .inl (eI E, 3, .inl rf)), (a 5, .inl (eI E, 120, .inl tx)), (a 6, .inl (eI E, 60, .inl lt)), (a 7, .inl (eI E, 120, .inl nu))] := hD
  have hl : lv_has ls 1 [(0, .ref (a 0))] := hl
  refine lv_aload_n (pc := 0) hx hb dX6_fails_0 rfl (lv_at hl 0 rfl) ?_
  refine lv_aload_n (pc := 1) hx hb dX6_fails_1 rfl (lv_at hl 0 rfl) ?_
  refine g_get (v := .int (nI q)) (pc := 2) hx hb hts ii_X6_fails_X6 hown hK.1 hP 0 rfl rfl 12 (by decide) ⟨rfl, rfl, rfl⟩ mm_X6_fails_1 rfl dX6_fails_2 ?_
  refine g_put (w1 := [(a 0, .inr (6, [.ref (a 1), .ref (a 2), .ref (a 3), .int (y 0), .ref (a 4), .ref (a 5), .int (nI n), .int (y 2), .int (y 3), .ref (a 6), .ref (a 7), .int (nI o), .int (nI q), .int (nI q), .long hs])), (a 1, .inl (eJ E, 68, .inr (.inl nw))), (a 2, .inl (eJ E, 68, .inr (.inl sd))), (a 3, .inl (eJ E, 340, .inr (.inl pt))), (a 4, .inl (eI E, 3, .inl rf)), (a 5, .inl (eI E, 120, .inl tx)), (a 6, .inl (eI E, 60, .inl lt)), (a 7, .inl (eI E, 120, .inl nu))]) (pc := 5) hx hb hts ii_X6_fails_X6 tyX6 tyX6_ok nmX6 hown hK.1 hP hD hS 0 rfl rfl 13 (by decide) ⟨rfl, rfl, rfl⟩ mm_X6_fails_2 rfl rfl rfl rfl (Nat.le_of_ble_eq_true rfl) rfl dX6_fails_5 (fun H locs hP hD hS => ?_)
  refine lv_iconst (v := 0) (pc := 8) hx hb dX6_fails_8 rfl ?_
  exact hQ _ _ _ _ _ rfl hP hD hS dX6_fails_9

def fX6_manyOf (k : Int32) : Int32 :=
  if k = 99 then
    2
  else
    if k = 103 then
      1
    else
      if k = 108 then
        2
      else
        if k = 111 then
          1
        else
          if k = 112 then
            2
          else
            if k = 114 then
              1
            else
              (-10000001)
abbrev rX6_manyOf : Room := { frames := 0, cells := 0, slots := 0, locals := 0 }
theorem mm_X6_manyOf_1 : Cond.constant RX6 57 (-10000001) ∈ wsX6_manyOf := List.mem_of_getElem? (i := 1) rfl
theorem qsX6_manyOf : yX6_manyOf.cls = RX6 ∧ yX6_manyOf.cls ≠ "java/lang/invoke/MethodHandle" ∧ yX6_manyOf.cls ≠ "java/lang/invoke/VarHandle" ∧ (parseMethodDescriptor yX6_manyOf.desc).map (fun d => d.parameters.length) = some 1 := by decide +kernel
theorem qnX6_manyOf : yX6_manyOf.cls ≠ "java/lang/invoke/MethodHandle" ∧ yX6_manyOf.cls ≠ "java/lang/invoke/VarHandle" ∧ (parseMethodDescriptor yX6_manyOf.desc).map (fun d => d.parameters.length) = some 1 := by decide +kernel
set_option maxHeartbeats 4000000 in
set_option maxRecDepth 100000 in
theorem kX6_manyOf (l : Launch) (E : gEnv) (k : Int32) : gMi l E yX6_manyOf wsX6_manyOf rX6_manyOf [.int k] [] (fX6_manyOf k) [] := by
  refine gMi_of (cc := cX6_manyOf) (maxL := 1) (ret := (some .int)) (by decide) rfl rfl (Nat.le_of_ble_eq_true rfl) ?_
  intro p e s m args below meth c A Q ls hB hQ
  obtain ⟨hx, hb, hml, hown, hts, hK, hP, hD, hA, hS, hl⟩ := hB
  have hown : s.vm.findClass RX6 = some m.cls := hown
  have hP : va_P E.1 vwCl [] s.heap := hP
  have hD : va_D A [] := hD
  have hl : lv_has ls 1 [(0, .int k)] := hl
  refine lv_iload_n (pc := 0) hx hb dX6_manyOf_0 rfl (lv_at hl 0 rfl) ?_
  by_cases c_1 : k = 99
  · refine lv_tableIn (tgt := 80) (pc := 1) hx hb dX6_manyOf_1 (by rw [c_1]; decide) (by rw [c_1]; decide) (by rw [c_1] <;> rfl) (by decide) ?_
    refine lv_iconst (v := 2) (pc := 80) hx hb dX6_manyOf_80 rfl ?_
    have hfn : fX6_manyOf k = _ := if_pos c_1
    rw [hfn] at hQ
    exact hQ _ _ _ _ _ rfl hP hD hS dX6_manyOf_81
  by_cases c_2 : k = 103
  · refine lv_tableIn (tgt := 82) (pc := 1) hx hb dX6_manyOf_1 (by rw [c_2]; decide) (by rw [c_2]; decide) (by rw [c_2] <;> rfl) (by decide) ?_
    refine lv_iconst (v := 1) (pc := 82) hx hb dX6_manyOf_82 rfl ?_
    have hfn : fX6_manyOf k = _ := (if_neg c_1).trans (if_pos c_2)
    rw [hfn] at hQ
    exact hQ _ _ _ _ _ rfl hP hD hS dX6_manyOf_83
  by_cases c_3 : k = 108
  · refine lv_tableIn (tgt := 80) (pc := 1) hx hb dX6_manyOf_1 (by rw [c_3]; decide) (by rw [c_3]; decide) (by rw [c_3] <;> rfl) (by decide) ?_
    refine lv_iconst (v := 2) (pc := 80) hx hb dX6_manyOf_80 rfl ?_
    have hfn : fX6_manyOf k = _ := (if_neg c_1).trans ((if_neg c_2).trans (if_pos c_3))
    rw [hfn] at hQ
    exact hQ _ _ _ _ _ rfl hP hD hS dX6_manyOf_81
  by_cases c_4 : k = 111
  · refine lv_tableIn (tgt := 82) (pc := 1) hx hb dX6_manyOf_1 (by rw [c_4]; decide) (by rw [c_4]; decide) (by rw [c_4] <;> rfl) (by decide) ?_
    refine lv_iconst (v := 1) (pc := 82) hx hb dX6_manyOf_82 rfl ?_
    have hfn : fX6_manyOf k = _ := (if_neg c_1).trans ((if_neg c_2).trans ((if_neg c_3).trans (if_pos c_4)))
    rw [hfn] at hQ
    exact hQ _ _ _ _ _ rfl hP hD hS dX6_manyOf_83
  by_cases c_5 : k = 112
  · refine lv_tableIn (tgt := 80) (pc := 1) hx hb dX6_manyOf_1 (by rw [c_5]; decide) (by rw [c_5]; decide) (by rw [c_5] <;> rfl) (by decide) ?_
    refine lv_iconst (v := 2) (pc := 80) hx hb dX6_manyOf_80 rfl ?_
    have hfn : fX6_manyOf k = _ := (if_neg c_1).trans ((if_neg c_2).trans ((if_neg c_3).trans ((if_neg c_4).trans (if_pos c_5))))
    rw [hfn] at hQ
    exact hQ _ _ _ _ _ rfl hP hD hS dX6_manyOf_81
  by_cases c_6 : k = 114
  · refine lv_tableIn (tgt := 82) (pc := 1) hx hb dX6_manyOf_1 (by rw [c_6]; decide) (by rw [c_6]; decide) (by rw [c_6] <;> rfl) (by decide) ?_
    refine lv_iconst (v := 1) (pc := 82) hx hb dX6_manyOf_82 rfl ?_
    have hfn : fX6_manyOf k = _ := (if_neg c_1).trans ((if_neg c_2).trans ((if_neg c_3).trans ((if_neg c_4).trans ((if_neg c_5).trans (if_pos c_6)))))
    rw [hfn] at hQ
    exact hQ _ _ _ _ _ rfl hP hD hS dX6_manyOf_83
  have tc_1 : ¬ k.toInt = 99 := fun h => c_1 (Int32.toInt_inj.mp (h.trans (by decide)))
  have tc_2 : ¬ k.toInt = 103 := fun h => c_2 (Int32.toInt_inj.mp (h.trans (by decide)))
  have tc_3 : ¬ k.toInt = 108 := fun h => c_3 (Int32.toInt_inj.mp (h.trans (by decide)))
  have tc_4 : ¬ k.toInt = 111 := fun h => c_4 (Int32.toInt_inj.mp (h.trans (by decide)))
  have tc_5 : ¬ k.toInt = 112 := fun h => c_5 (Int32.toInt_inj.mp (h.trans (by decide)))
  have tc_6 : ¬ k.toInt = 114 := fun h => c_6 (Int32.toInt_inj.mp (h.trans (by decide)))
  have D_7 : W p l e rX6_manyOf s m args below meth c s.heap [] 0 0 Q (F0 m 84 ls []) := by
    refine lv_ldc (v := (-10000001)) (pc := 84) hx hb hown (hts _ mm_X6_manyOf_1) dX6_manyOf_84 ?_
    have hfn : fX6_manyOf k = _ := (if_neg c_1).trans ((if_neg c_2).trans ((if_neg c_3).trans ((if_neg c_4).trans ((if_neg c_5).trans (if_neg c_6)))))
    rw [hfn] at hQ
    exact hQ _ _ _ _ _ rfl hP hD hS dX6_manyOf_86
  rcases (show k.toInt < 99 ∨ 114 < k.toInt ∨ k.toInt = 100 ∨ k.toInt = 101 ∨ k.toInt = 102 ∨ k.toInt = 104 ∨ k.toInt = 105 ∨ k.toInt = 106 ∨ k.toInt = 107 ∨ k.toInt = 109 ∨ k.toInt = 110 ∨ k.toInt = 113 by omega) with h | h | h | h | h | h | h | h | h | h | h | h
  · exact lv_tableOut (tgt := 84) (pc := 1) hx hb dX6_manyOf_1 (Or.inl h) (by decide) D_7
  · exact lv_tableOut (tgt := 84) (pc := 1) hx hb dX6_manyOf_1 (Or.inr h) (by decide) D_7
  · exact lv_tableIn (tgt := 84) (pc := 1) hx hb dX6_manyOf_1 (by rw [h]; decide) (by rw [h]; decide) (by rw [h] <;> rfl) (by decide) D_7
  · exact lv_tableIn (tgt := 84) (pc := 1) hx hb dX6_manyOf_1 (by rw [h]; decide) (by rw [h]; decide) (by rw [h] <;> rfl) (by decide) D_7
  · exact lv_tableIn (tgt := 84) (pc := 1) hx hb dX6_manyOf_1 (by rw [h]; decide) (by rw [h]; decide) (by rw [h] <;> rfl) (by decide) D_7
  · exact lv_tableIn (tgt := 84) (pc := 1) hx hb dX6_manyOf_1 (by rw [h]; decide) (by rw [h]; decide) (by rw [h] <;> rfl) (by decide) D_7
  · exact lv_tableIn (tgt := 84) (pc := 1) hx hb dX6_manyOf_1 (by rw [h]; decide) (by rw [h]; decide) (by rw [h] <;> rfl) (by decide) D_7
  · exact lv_tableIn (tgt := 84) (pc := 1) hx hb dX6_manyOf_1 (by rw [h]; decide) (by rw [h]; decide) (by rw [h] <;> rfl) (by decide) D_7
  · exact lv_tableIn (tgt := 84) (pc := 1) hx hb dX6_manyOf_1 (by rw [h]; decide) (by rw [h]; decide) (by rw [h] <;> rfl) (by decide) D_7
  · exact lv_tableIn (tgt := 84) (pc := 1) hx hb dX6_manyOf_1 (by rw [h]; decide) (by rw [h]; decide) (by rw [h] <;> rfl) (by decide) D_7
  · exact lv_tableIn (tgt := 84) (pc := 1) hx hb dX6_manyOf_1 (by rw [h]; decide) (by rw [h]; decide) (by rw [h] <;> rfl) (by decide) D_7
  · exact lv_tableIn (tgt := 84) (pc := 1) hx hb dX6_manyOf_1 (by rw [h]; decide) (by rw [h]; decide) (by rw [h] <;> rfl) (by decide) D_7

/-- the figures: at most four; a fifth fails -/
def tnE (tx : Nat → Int32) (n : Nat) (bl : Int32) (s0 : Nat) (nu : Nat → Int32) (to : Nat) (wa : Int32) (k : Nat) (v : Int32) : Int32 × (Nat × Int32 × (Nat → Int32)) := if nI s0 < nI k then (1, (k, wa, upd nu to (if bl = 0 then v else -v))) else (0, (k, nI k, upd nu to (if bl = 0 then v else -v)))
def tnT (tx : Nat → Int32) (n : Nat) (bl : Int32) (s0 : Nat) (nu : Nat → Int32) (to : Nat) (wa : Int32) : Nat → Nat → Int32 → Int32 × (Nat × Int32 × (Nat → Int32))
  | 0, k, v => if fX6_isAt tx n k 48 57 = 0 then tnE tx n bl s0 nu to wa k v else (0, (k, nI k, nu))
  | f + 1, k, v => if fX6_isAt tx n k 48 57 = 0 then tnE tx n bl s0 nu to wa k v else tnT tx n bl s0 nu to wa f (k + 1) ((10 * v) + tx k - 48)
theorem s4 {a b : Nat} (ha : a ≤ 200) (hb : b ≤ 200) : nI b = (nI a) + 4 ↔ b = a + 4 := by
  rw [show (4 : Int32) = nI 4 from rfl, nI_add, nI_eq (by omega) (by omega)]

def fX6_takesNumber (tx : Nat → Int32) (n q : Nat) (wa : Int32) (nu : Nat → Int32) (tp : Int32) (bl : Int32) : Int32 × (Nat × Int32 × (Nat → Int32)) :=
  if bl = 0 then
    tnT tx n 0 (sk tx n q) nu tp.toNatClampNeg wa 4 (sk tx n q) 0
  else
    let r20 : Int32 := fX6_isAt tx n (sk tx n q) 45 45
    if r20 = 0 then
      tnT tx n 0 (sk tx n q) nu tp.toNatClampNeg wa 4 (sk tx n q) 0
    else
      tnT tx n 1 (sk tx n q + 1) nu tp.toNatClampNeg wa 4 (sk tx n q + 1) 0
theorem tnE_le {tx : Nat → Int32} {n : Nat} {bl : Int32} {s0 : Nat} {nu : Nat → Int32} {to : Nat} {wa : Int32} {k : Nat} {v : Int32} (h : k ≤ n) : (tnE tx n bl s0 nu to wa k v).2.1 ≤ n ∧ k ≤ (tnE tx n bl s0 nu to wa k v).2.1 ∧ ((tnE tx n bl s0 nu to wa k v).1 = 0 ∨ (tnE tx n bl s0 nu to wa k v).1 = 1) := by
  unfold tnE
  by_cases c : nI s0 < nI k
  · rw [if_pos c]; exact ⟨h, Nat.le_refl _, Or.inr rfl⟩
  · rw [if_neg c]; exact ⟨h, Nat.le_refl _, Or.inl rfl⟩
theorem tnT_le {tx : Nat → Int32} {n : Nat} {bl : Int32} {s0 : Nat} {nu : Nat → Int32} {to : Nat} {wa : Int32} : ∀ (f k : Nat) (v : Int32), k ≤ n → (tnT tx n bl s0 nu to wa f k v).2.1 ≤ n ∧ k ≤ (tnT tx n bl s0 nu to wa f k v).2.1 ∧ ((tnT tx n bl s0 nu to wa f k v).1 = 0 ∨ (tnT tx n bl s0 nu to wa f k v).1 = 1)
  | 0, k, v, h => by
    by_cases c : fX6_isAt tx n k 48 57 = 0
    · rw [show tnT tx n bl s0 nu to wa 0 k v = tnE tx n bl s0 nu to wa k v from if_pos c]; exact tnE_le h
    · rw [show tnT tx n bl s0 nu to wa 0 k v = (0, (k, nI k, nu)) from if_neg c]; exact ⟨h, Nat.le_refl _, Or.inl rfl⟩
  | f + 1, k, v, h => by
    by_cases c : fX6_isAt tx n k 48 57 = 0
    · rw [show tnT tx n bl s0 nu to wa (f + 1) k v = tnE tx n bl s0 nu to wa k v from if_pos c]; exact tnE_le h
    · rw [show tnT tx n bl s0 nu to wa (f + 1) k v = tnT tx n bl s0 nu to wa f (k + 1) ((10 * v) + tx k - 48) from if_neg c]
      have := tnT_le (tx := tx) (bl := bl) (s0 := s0) (nu := nu) (to := to) (wa := wa) f (k + 1) ((10 * v) + tx k - 48) (ia_lt c)
      exact ⟨this.1, by omega, this.2.2⟩
theorem tn_le {tx : Nat → Int32} {n q : Nat} {wa : Int32} {nu : Nat → Int32} {tp bl : Int32} (hq : q ≤ n) : (fX6_takesNumber tx n q wa nu tp bl).2.1 ≤ n ∧ q ≤ (fX6_takesNumber tx n q wa nu tp bl).2.1 ∧ ((fX6_takesNumber tx n q wa nu tp bl).1 = 0 ∨ (fX6_takesNumber tx n q wa nu tp bl).1 = 1) := by
  have h1 : sk tx n q ≤ n := sk_le hq
  have h0 := sk_ge tx n q
  have key : ∀ (ng : Int32) (k : Nat), q ≤ k → k ≤ n → (tnT tx n ng k nu tp.toNatClampNeg wa 4 k 0).2.1 ≤ n ∧ q ≤ (tnT tx n ng k nu tp.toNatClampNeg wa 4 k 0).2.1 ∧ ((tnT tx n ng k nu tp.toNatClampNeg wa 4 k 0).1 = 0 ∨ (tnT tx n ng k nu tp.toNatClampNeg wa 4 k 0).1 = 1) := by
    intro ng k hk0 hk
    have := tnT_le (tx := tx) (bl := ng) (s0 := k) (nu := nu) (to := tp.toNatClampNeg) (wa := wa) 4 k 0 hk
    exact ⟨this.1, by omega, this.2.2⟩
  unfold fX6_takesNumber
  simp only []
  by_cases c1 : bl = 0
  · rw [if_pos c1]; exact key 0 _ h0 h1
  · rw [if_neg c1]
    by_cases c3 : fX6_isAt tx n (sk tx n q) 45 45 = 0
    · rw [if_pos c3]; exact key 0 _ h0 h1
    · rw [if_neg c3]; exact key 1 _ (by omega) (ia_lt c3)
abbrev rX6_takesNumber : Room := { frames := 3, cells := 0, slots := 0, locals := 67 }
theorem mm_X6_takesNumber_1 : Cond.fieldLink RX6 148 "GaugeBoundsModel" "spot" "I" ∈ wsX6_takesNumber := List.mem_of_getElem? (i := 1) rfl
theorem mm_X6_takesNumber_3 : Cond.fieldLink RX6 29 "GaugeBoundsModel" "numbers" "[I" ∈ wsX6_takesNumber := List.mem_of_getElem? (i := 3) rfl
theorem mm_X6_takesNumber_2 : Cond.fieldLink RX6 23 "GaugeBoundsModel" "text" "[I" ∈ wsX6_takesNumber := List.mem_of_getElem? (i := 2) rfl
theorem ii_X6_takesNumber_X6 : ∀ w ∈ wsX60, w ∈ wsX6_takesNumber := fun _ h => List.mem_cons_of_mem _ (List.mem_append_right _ (h))
theorem qvX6_takesNumber : yX6_takesNumber.cls = RX6 ∧ yX6_takesNumber.cls ≠ "java/lang/invoke/MethodHandle" ∧ yX6_takesNumber.cls ≠ "java/lang/invoke/VarHandle" ∧ (parseMethodDescriptor yX6_takesNumber.desc).map (fun d => d.parameters.length) = some 2 := by decide +kernel
set_option maxHeartbeats 4000000 in
set_option maxRecDepth 100000 in
theorem kX6_takesNumber (l : Launch) (E : gEnv) (a : Nat → Nat) (y : Nat → Int32) (n o q : Nat) (wa : Int32) (hs : Int64) (nw sd pt : Nat → Int64) (rf tx lt nu : Nat → Int32) (tp : Int32) (bl : Int32) (hn : n ≤ 120) (hq : q ≤ n) (ht : vp_in tp 120) : gMi l E yX6_takesNumber wsX6_takesNumber rX6_takesNumber [.ref (a 0), .int tp, .int bl] (wMx E a y n o q wa hs nw sd pt rf tx lt nu) (fX6_takesNumber tx n q wa nu tp bl).1 (wMx E a y n o ((fX6_takesNumber tx n q wa nu tp bl).2.1) ((fX6_takesNumber tx n q wa nu tp bl).2.2.1) hs nw sd pt rf tx lt ((fX6_takesNumber tx n q wa nu tp bl).2.2.2)) := by
  refine gMz_of (cc := cX6_takesNumber) (maxL := 6) (ret := (some .boolean)) (by decide) rfl rfl (Nat.le_of_ble_eq_true rfl) (zb (tn_le (wa := wa) (nu := nu) (tp := tp) (bl := bl) hq).2.2) ?_
  intro p e s m args below meth c A Q ls hB hQ
  obtain ⟨hx, hb, hml, hown, hts, hK, hP, hD, hA, hS, hl⟩ := hB
  have hown : s.vm.findClass RX6 = some m.cls := hown
  have hP : va_P E.1 vwCl [(a 0, .inr (6, [.ref (a 1), .ref (a 2), .ref (a 3), .int (y 0), .ref (a 4), .ref (a 5), .int (nI n), .int (y 2), .int (y 3), .ref (a 6), .ref (a 7), .int (nI o), .int (nI q), .int wa, .long hs])), (a 1, .inl (eJ E, 68, .inr (.inl nw))), (a 2, .inl (eJ E, 68, .inr (.inl sd))), (a 3, .inl (eJ E, 340, .inr (.inl pt))), (a 4, .inl (eI E, 3, .inl rf)), (a 5, .inl (eI E, 120, .inl tx)), (a 6, .inl (eI E, 60, .inl lt)), (a 7, .inl (eI E, 120, .inl nu))] s.heap := hP
  have hD : va_D A [(a 0, .inr (6, [.ref (a 1), .ref (a 2), .ref (a 3), .int (y 0), .ref (a 4), .ref (a 5), .int (nI n), .int (y 2), .int (y 3), .ref (a 6), .ref (a 7), .int (nI o), .int (nI q), .int wa, .long hs])), (a 1, .inl (eJ E, 68, .inr (.inl nw))), (a 2, .inl (eJ E, 68, .inr (.inl sd))), (a 3, .inl (eJ E, 340, .inr (.inl pt))), (a 4, .inl (eI E, 3, .inl rf)), (a 5, .inl (eI E, 120, .inl tx)), (a 6, .inl (eI E, 60, .inl lt)), (a 7, .inl (eI E, 120, .inl nu))] := hD
  have hl : lv_has ls 6 [(0, .ref (a 0)), (1, .int tp), (2, .int bl)] := hl
  refine lv_aload_n (pc := 0) hx hb dX6_takesNumber_0 rfl (lv_at hl 0 rfl) ?_
  have hr1 := kX6_blanks l E a y n o q wa hs nw sd pt rf tx lt nu hn hq
  refine gcVv (pc := 1) (w1 := [(a 0, .inr (6, [.ref (a 1), .ref (a 2), .ref (a 3), .int (y 0), .ref (a 4), .ref (a 5), .int (nI n), .int (y 2), .int (y 3), .ref (a 6), .ref (a 7), .int (nI o), .int (nI (sk tx n q)), .int wa, .long hs])), (a 1, .inl (eJ E, 68, .inr (.inl nw))), (a 2, .inl (eJ E, 68, .inr (.inl sd))), (a 3, .inl (eJ E, 340, .inr (.inl pt))), (a 4, .inl (eI E, 3, .inl rf)), (a 5, .inl (eI E, 120, .inl tx)), (a 6, .inl (eI E, 60, .inl lt)), (a 7, .inl (eI E, 120, .inl nu))]) (pre := []) (post := []) (As := []) (rest := []) (q0 := 0) ⟨hx, hb, hml, hown, hts⟩ hr1 (cwV 0 hts gX6_takesNumber_X6_blanks rfl rfl rfl qvX6_blanks ⟨Nat.le_of_ble_eq_true rfl, Nat.le_of_ble_eq_true rfl⟩) hK hP hD hS hA rfl rfl rfl rfl rfl hl.1 rfl (Nat.le_of_ble_eq_true rfl) dX6_takesNumber_1 ⟨Nat.zero_le _, Nat.zero_le _⟩ (fun H locs hP hD hS => ?_)
  refine lv_iload_n (pc := 4) hx hb dX6_takesNumber_4 rfl (lv_at hl 2 rfl) ?_
  refine lv_if_eq (tgt := 23) (pc := 5) hx hb dX6_takesNumber_5 (by decide) (fun c_2 => ?_) (fun c_2 => ?_)
  · refine lv_iconst (v := 0) (pc := 23) hx hb dX6_takesNumber_23 rfl ?_
    refine lv_istore_n (lv' := [(3, .int 0), (0, .ref (a 0)), (1, .int tp), (2, .int bl)]) (pc := 24) hx hb dX6_takesNumber_24 rfl hl (by decide) rfl (fun ls hl => ?_)
    refine lv_aload_n (pc := 25) hx hb dX6_takesNumber_25 rfl (lv_at hl 1 rfl) ?_
    refine lv_dup (pc := 26) hx hb dX6_takesNumber_26 rfl ?_
    refine g_get (v := .int (nI (sk tx n q))) (pc := 27) hx hb hts ii_X6_takesNumber_X6 hown hK.1 hP 0 rfl rfl 12 (by decide) ⟨rfl, rfl, rfl⟩ mm_X6_takesNumber_1 rfl dX6_takesNumber_27 ?_
    refine lv_iload_n (pc := 30) hx hb dX6_takesNumber_30 rfl (lv_at hl 0 rfl) ?_
    refine lv_if_eq (tgt := 38) (pc := 31) hx hb dX6_takesNumber_31 (by decide) (fun c_3 => ?_) (fun c_3 => ?_)
    rotate_left
    · exact absurd (by decide) c_3
    refine lv_iconst (v := 0) (pc := 38) hx hb dX6_takesNumber_38 rfl ?_
    refine lv_iadd (pc := 39) hx hb dX6_takesNumber_39 ?_
    rw [show nI (sk tx n q) + 0 = nI (sk tx n q) from nI_add _ 0]
    refine g_put (w1 := [(a 0, .inr (6, [.ref (a 1), .ref (a 2), .ref (a 3), .int (y 0), .ref (a 4), .ref (a 5), .int (nI n), .int (y 2), .int (y 3), .ref (a 6), .ref (a 7), .int (nI o), .int (nI (sk tx n q)), .int wa, .long hs])), (a 1, .inl (eJ E, 68, .inr (.inl nw))), (a 2, .inl (eJ E, 68, .inr (.inl sd))), (a 3, .inl (eJ E, 340, .inr (.inl pt))), (a 4, .inl (eI E, 3, .inl rf)), (a 5, .inl (eI E, 120, .inl tx)), (a 6, .inl (eI E, 60, .inl lt)), (a 7, .inl (eI E, 120, .inl nu))]) (pc := 40) hx hb hts ii_X6_takesNumber_X6 tyX6 tyX6_ok nmX6 hown hK.1 hP hD hS 0 rfl rfl 12 (by decide) ⟨rfl, rfl, rfl⟩ mm_X6_takesNumber_1 rfl rfl rfl rfl (Nat.le_of_ble_eq_true rfl) rfl dX6_takesNumber_40 (fun H locs hP hD hS => ?_)
    refine lv_aload_n (pc := 43) hx hb dX6_takesNumber_43 rfl (lv_at hl 1 rfl) ?_
    refine g_get (v := .int (nI (sk tx n q))) (pc := 44) hx hb hts ii_X6_takesNumber_X6 hown hK.1 hP 0 rfl rfl 12 (by decide) ⟨rfl, rfl, rfl⟩ mm_X6_takesNumber_1 rfl dX6_takesNumber_44 ?_
    refine lv_istore (lv' := [(4, .int (nI (sk tx n q))), (3, .int 0), (0, .ref (a 0)), (1, .int tp), (2, .int bl)]) (pc := 47) hx hb dX6_takesNumber_47 hl (by decide) rfl (fun ls hl => ?_)
    refine lv_iconst (v := 0) (pc := 49) hx hb dX6_takesNumber_49 rfl ?_
    refine lv_istore (lv' := [(5, .int 0), (4, .int (nI (sk tx n q))), (3, .int 0), (0, .ref (a 0)), (1, .int tp), (2, .int bl)]) (pc := 50) hx hb dX6_takesNumber_50 hl (by decide) rfl (fun ls hl => ?_)
    have hq2 : sk tx n q ≤ n := (sk_le hq)
    have hfn : fX6_takesNumber tx n q wa nu tp bl = tnT tx n 0 (sk tx n q) nu tp.toNatClampNeg wa 4 (sk tx n q) 0 := if_pos c_2
    rw [hfn] at hQ
    have loop : ∀ (f k : Nat) (v : Int32), (sk tx n q) + 4 = k + f → k ≤ n → tnT tx n 0 (sk tx n q) nu tp.toNatClampNeg wa f k v = tnT tx n 0 (sk tx n q) nu tp.toNatClampNeg wa 4 (sk tx n q) 0 → ∀ (H : Heap) (locs : List Loc) (ls : Array Slot), va_P E.1 vwCl [(a 0, .inr (6, [.ref (a 1), .ref (a 2), .ref (a 3), .int (y 0), .ref (a 4), .ref (a 5), .int (nI n), .int (y 2), .int (y 3), .ref (a 6), .ref (a 7), .int (nI o), .int (nI k), .int wa, .long hs])), (a 1, .inl (eJ E, 68, .inr (.inl nw))), (a 2, .inl (eJ E, 68, .inr (.inl sd))), (a 3, .inl (eJ E, 340, .inr (.inl pt))), (a 4, .inl (eI E, 3, .inl rf)), (a 5, .inl (eI E, 120, .inl tx)), (a 6, .inl (eI E, 60, .inl lt)), (a 7, .inl (eI E, 120, .inl nu))] H → va_D A [(a 0, .inr (6, [.ref (a 1), .ref (a 2), .ref (a 3), .int (y 0), .ref (a 4), .ref (a 5), .int (nI n), .int (y 2), .int (y 3), .ref (a 6), .ref (a 7), .int (nI o), .int (nI k), .int wa, .long hs])), (a 1, .inl (eJ E, 68, .inr (.inl nw))), (a 2, .inl (eJ E, 68, .inr (.inl sd))), (a 3, .inl (eJ E, 340, .inr (.inl pt))), (a 4, .inl (eI E, 3, .inl rf)), (a 5, .inl (eI E, 120, .inl tx)), (a 6, .inl (eI E, 60, .inl lt)), (a 7, .inl (eI E, 120, .inl nu))] → va_S A s.heap H locs → lv_has ls 6 [(0, .ref (a 0)), (1, .int tp), (2, .int bl), (3, .int 0), (4, .int (nI (sk tx n q))), (5, .int v)] → W p l e rX6_takesNumber s m args below meth c H locs 0 0 Q (F0 m 52 ls []) := by
      intro f
      induction f with
      | zero =>
        intro k v hi hkn hk H locs ls hP hD hS hl
        refine lv_aload_n (pc := 52) hx hb dX6_takesNumber_52 rfl (lv_at hl 0 rfl) ?_
        refine lv_bipush (v := 48) (pc := 53) hx hb dX6_takesNumber_53 rfl ?_
        refine lv_bipush (v := 57) (pc := 55) hx hb dX6_takesNumber_55 rfl ?_
        obtain ⟨r4, er4⟩ : ∃ z : Int32, fX6_isAt tx n k 48 57 = z := ⟨_, rfl⟩
        have hr4 := kX6_isAt l E a y n o k wa hs nw sd pt rf tx lt nu 48 57 hn hkn
        rw [er4] at hr4
        refine gcVi (pc := 57) (w1 := [(a 0, .inr (6, [.ref (a 1), .ref (a 2), .ref (a 3), .int (y 0), .ref (a 4), .ref (a 5), .int (nI n), .int (y 2), .int (y 3), .ref (a 6), .ref (a 7), .int (nI o), .int (nI k), .int wa, .long hs])), (a 1, .inl (eJ E, 68, .inr (.inl nw))), (a 2, .inl (eJ E, 68, .inr (.inl sd))), (a 3, .inl (eJ E, 340, .inr (.inl pt))), (a 4, .inl (eI E, 3, .inl rf)), (a 5, .inl (eI E, 120, .inl tx)), (a 6, .inl (eI E, 60, .inl lt)), (a 7, .inl (eI E, 120, .inl nu))]) (pre := []) (post := []) (As := [.int 48, .int 57]) (rest := []) (q0 := 0) ⟨hx, hb, hml, hown, hts⟩ hr4 (cwV 2 hts gX6_takesNumber_X6_isAt rfl rfl rfl qvX6_isAt ⟨Nat.le_of_ble_eq_true rfl, Nat.le_of_ble_eq_true rfl⟩) hK hP hD hS hA rfl rfl rfl rfl rfl hl.1 rfl (Nat.le_of_ble_eq_true rfl) dX6_takesNumber_57 ⟨Nat.zero_le _, Nat.zero_le _⟩ (fun H locs hP hD hS => ?_)
        refine lv_if_eq (tgt := 112) (pc := 60) hx hb dX6_takesNumber_60 (by decide) (fun c_5 => ?_) (fun c_5 => ?_)
        · refine lv_aload_n (pc := 112) hx hb dX6_takesNumber_112 rfl (lv_at hl 0 rfl) ?_
          refine g_get (v := .ref (a 7)) (pc := 113) hx hb hts ii_X6_takesNumber_X6 hown hK.1 hP 0 rfl rfl 10 (by decide) ⟨rfl, rfl, rfl⟩ mm_X6_takesNumber_3 rfl dX6_takesNumber_113 ?_
          refine lv_iload_n (pc := 116) hx hb dX6_takesNumber_116 rfl (lv_at hl 1 rfl) ?_
          refine lv_iload_n (pc := 117) hx hb dX6_takesNumber_117 rfl (lv_at hl 3 rfl) ?_
          refine lv_if_eq (tgt := 127) (pc := 118) hx hb dX6_takesNumber_118 (by decide) (fun c_6 => ?_) (fun c_6 => ?_)
          rotate_left
          · exact absurd (by decide) c_6
          refine lv_iload (pc := 127) hx hb dX6_takesNumber_127 (lv_at hl 5 rfl) ?_
          refine g_iast (j := tp.toNatClampNeg) (w1 := [(a 0, .inr (6, [.ref (a 1), .ref (a 2), .ref (a 3), .int (y 0), .ref (a 4), .ref (a 5), .int (nI n), .int (y 2), .int (y 3), .ref (a 6), .ref (a 7), .int (nI o), .int (nI k), .int wa, .long hs])), (a 1, .inl (eJ E, 68, .inr (.inl nw))), (a 2, .inl (eJ E, 68, .inr (.inl sd))), (a 3, .inl (eJ E, 340, .inr (.inl pt))), (a 4, .inl (eI E, 3, .inl rf)), (a 5, .inl (eI E, 120, .inl tx)), (a 6, .inl (eI E, 60, .inl lt)), (a 7, .inl (eI E, 120, .inl (upd nu tp.toNatClampNeg v)))]) (pc := 129) hx hb hK.1 hP hD hS 7 0 rfl rfl ht rfl rfl dX6_takesNumber_129 (fun H locs hP hD hS => ?_)
          refine lv_aload_n (pc := 130) hx hb dX6_takesNumber_130 rfl (lv_at hl 0 rfl) ?_
          refine g_get (v := .int (nI k)) (pc := 131) hx hb hts ii_X6_takesNumber_X6 hown hK.1 hP 0 rfl rfl 12 (by decide) ⟨rfl, rfl, rfl⟩ mm_X6_takesNumber_1 rfl dX6_takesNumber_131 ?_
          refine lv_iload (pc := 134) hx hb dX6_takesNumber_134 (lv_at hl 4 rfl) ?_
          refine lv_icmp_gt (tgt := 146) (pc := 136) hx hb dX6_takesNumber_136 (by decide) (fun c_7 => ?_) (fun c_7 => ?_)
          · refine lv_iconst (v := 1) (pc := 146) hx hb dX6_takesNumber_146 rfl ?_
            refine lv_goto (tgt := 151) (pc := 147) hx hb dX6_takesNumber_147 (by decide) ?_
            subst er4
            have hfn2 : tnT tx n 0 (sk tx n q) nu tp.toNatClampNeg wa 4 (sk tx n q) 0 = (1, (k, wa, upd nu tp.toNatClampNeg (if (0 : Int32) = 0 then v else -v))) := hk.symm.trans ((show tnT tx n 0 (sk tx n q) nu tp.toNatClampNeg wa 0 k v = tnE tx n 0 (sk tx n q) nu tp.toNatClampNeg wa k v from if_pos c_5).trans (if_pos c_7))
            rw [hfn2] at hQ
            exact hQ _ _ _ _ _ rfl hP hD hS dX6_takesNumber_151
          · refine lv_aload_n (pc := 139) hx hb dX6_takesNumber_139 rfl (lv_at hl 0 rfl) ?_
            have hr8 := kX6_fails l E a y n o k wa hs nw sd pt rf tx lt (upd nu tp.toNatClampNeg v)
            rw [show (fX6_fails k).1 = 0 from rfl] at hr8
            refine gcVi (pc := 140) (w1 := [(a 0, .inr (6, [.ref (a 1), .ref (a 2), .ref (a 3), .int (y 0), .ref (a 4), .ref (a 5), .int (nI n), .int (y 2), .int (y 3), .ref (a 6), .ref (a 7), .int (nI o), .int (nI k), .int (nI k), .long hs])), (a 1, .inl (eJ E, 68, .inr (.inl nw))), (a 2, .inl (eJ E, 68, .inr (.inl sd))), (a 3, .inl (eJ E, 340, .inr (.inl pt))), (a 4, .inl (eI E, 3, .inl rf)), (a 5, .inl (eI E, 120, .inl tx)), (a 6, .inl (eI E, 60, .inl lt)), (a 7, .inl (eI E, 120, .inl (upd nu tp.toNatClampNeg v)))]) (pre := []) (post := []) (As := []) (rest := []) (q0 := 0) ⟨hx, hb, hml, hown, hts⟩ hr8 (cwV 0 hts gX6_takesNumber_X6_fails rfl rfl rfl qvX6_fails ⟨Nat.le_of_ble_eq_true rfl, Nat.le_of_ble_eq_true rfl⟩) hK hP hD hS hA rfl rfl rfl rfl rfl hl.1 rfl (Nat.le_of_ble_eq_true rfl) dX6_takesNumber_140 ⟨Nat.zero_le _, Nat.zero_le _⟩ (fun H locs hP hD hS => ?_)
            refine lv_if_eq (tgt := 150) (pc := 143) hx hb dX6_takesNumber_143 (by decide) (fun c_9 => ?_) (fun c_9 => ?_)
            rotate_left
            · exact absurd (by decide) c_9
            refine lv_iconst (v := 0) (pc := 150) hx hb dX6_takesNumber_150 rfl ?_
            subst er4
            have hfn2 : tnT tx n 0 (sk tx n q) nu tp.toNatClampNeg wa 4 (sk tx n q) 0 = (0, (k, nI k, upd nu tp.toNatClampNeg (if (0 : Int32) = 0 then v else -v))) := hk.symm.trans ((show tnT tx n 0 (sk tx n q) nu tp.toNatClampNeg wa 0 k v = tnE tx n 0 (sk tx n q) nu tp.toNatClampNeg wa k v from if_pos c_5).trans (if_neg c_7))
            rw [hfn2] at hQ
            exact hQ _ _ _ _ _ rfl hP hD hS dX6_takesNumber_151
        · refine lv_aload_n (pc := 63) hx hb dX6_takesNumber_63 rfl (lv_at hl 0 rfl) ?_
          refine g_get (v := .int (nI k)) (pc := 64) hx hb hts ii_X6_takesNumber_X6 hown hK.1 hP 0 rfl rfl 12 (by decide) ⟨rfl, rfl, rfl⟩ mm_X6_takesNumber_1 rfl dX6_takesNumber_64 ?_
          refine lv_iload (pc := 67) hx hb dX6_takesNumber_67 (lv_at hl 4 rfl) ?_
          refine lv_iconst (v := 4) (pc := 69) hx hb dX6_takesNumber_69 rfl ?_
          refine lv_iadd (pc := 70) hx hb dX6_takesNumber_70 ?_
          refine lv_icmp_ne (tgt := 79) (pc := 71) hx hb dX6_takesNumber_71 (by decide) (fun c_10 => ?_) (fun c_10 => ?_)
          · exact absurd ((s4 (by omega) (by omega)).mpr (by omega)) c_10
          refine lv_aload_n (pc := 74) hx hb dX6_takesNumber_74 rfl (lv_at hl 0 rfl) ?_
          have hr11 := kX6_fails l E a y n o k wa hs nw sd pt rf tx lt nu
          rw [show (fX6_fails k).1 = 0 from rfl] at hr11
          refine gcVi (pc := 75) (w1 := [(a 0, .inr (6, [.ref (a 1), .ref (a 2), .ref (a 3), .int (y 0), .ref (a 4), .ref (a 5), .int (nI n), .int (y 2), .int (y 3), .ref (a 6), .ref (a 7), .int (nI o), .int (nI k), .int (nI k), .long hs])), (a 1, .inl (eJ E, 68, .inr (.inl nw))), (a 2, .inl (eJ E, 68, .inr (.inl sd))), (a 3, .inl (eJ E, 340, .inr (.inl pt))), (a 4, .inl (eI E, 3, .inl rf)), (a 5, .inl (eI E, 120, .inl tx)), (a 6, .inl (eI E, 60, .inl lt)), (a 7, .inl (eI E, 120, .inl nu))]) (pre := []) (post := []) (As := []) (rest := []) (q0 := 0) ⟨hx, hb, hml, hown, hts⟩ hr11 (cwV 0 hts gX6_takesNumber_X6_fails rfl rfl rfl qvX6_fails ⟨Nat.le_of_ble_eq_true rfl, Nat.le_of_ble_eq_true rfl⟩) hK hP hD hS hA rfl rfl rfl rfl rfl hl.1 rfl (Nat.le_of_ble_eq_true rfl) dX6_takesNumber_75 ⟨Nat.zero_le _, Nat.zero_le _⟩ (fun H locs hP hD hS => ?_)
          subst er4
          have hfn2 : tnT tx n 0 (sk tx n q) nu tp.toNatClampNeg wa 4 (sk tx n q) 0 = (0, (k, nI k, nu)) := hk.symm.trans (if_neg c_5)
          rw [hfn2] at hQ
          exact hQ _ _ _ _ _ rfl hP hD hS dX6_takesNumber_78
      | succ f ih =>
        intro k v hi hkn hk H locs ls hP hD hS hl
        refine lv_aload_n (pc := 52) hx hb dX6_takesNumber_52 rfl (lv_at hl 0 rfl) ?_
        refine lv_bipush (v := 48) (pc := 53) hx hb dX6_takesNumber_53 rfl ?_
        refine lv_bipush (v := 57) (pc := 55) hx hb dX6_takesNumber_55 rfl ?_
        obtain ⟨r12, er12⟩ : ∃ z : Int32, fX6_isAt tx n k 48 57 = z := ⟨_, rfl⟩
        have hr12 := kX6_isAt l E a y n o k wa hs nw sd pt rf tx lt nu 48 57 hn hkn
        rw [er12] at hr12
        refine gcVi (pc := 57) (w1 := [(a 0, .inr (6, [.ref (a 1), .ref (a 2), .ref (a 3), .int (y 0), .ref (a 4), .ref (a 5), .int (nI n), .int (y 2), .int (y 3), .ref (a 6), .ref (a 7), .int (nI o), .int (nI k), .int wa, .long hs])), (a 1, .inl (eJ E, 68, .inr (.inl nw))), (a 2, .inl (eJ E, 68, .inr (.inl sd))), (a 3, .inl (eJ E, 340, .inr (.inl pt))), (a 4, .inl (eI E, 3, .inl rf)), (a 5, .inl (eI E, 120, .inl tx)), (a 6, .inl (eI E, 60, .inl lt)), (a 7, .inl (eI E, 120, .inl nu))]) (pre := []) (post := []) (As := [.int 48, .int 57]) (rest := []) (q0 := 0) ⟨hx, hb, hml, hown, hts⟩ hr12 (cwV 2 hts gX6_takesNumber_X6_isAt rfl rfl rfl qvX6_isAt ⟨Nat.le_of_ble_eq_true rfl, Nat.le_of_ble_eq_true rfl⟩) hK hP hD hS hA rfl rfl rfl rfl rfl hl.1 rfl (Nat.le_of_ble_eq_true rfl) dX6_takesNumber_57 ⟨Nat.zero_le _, Nat.zero_le _⟩ (fun H locs hP hD hS => ?_)
        refine lv_if_eq (tgt := 112) (pc := 60) hx hb dX6_takesNumber_60 (by decide) (fun c_13 => ?_) (fun c_13 => ?_)
        · refine lv_aload_n (pc := 112) hx hb dX6_takesNumber_112 rfl (lv_at hl 0 rfl) ?_
          refine g_get (v := .ref (a 7)) (pc := 113) hx hb hts ii_X6_takesNumber_X6 hown hK.1 hP 0 rfl rfl 10 (by decide) ⟨rfl, rfl, rfl⟩ mm_X6_takesNumber_3 rfl dX6_takesNumber_113 ?_
          refine lv_iload_n (pc := 116) hx hb dX6_takesNumber_116 rfl (lv_at hl 1 rfl) ?_
          refine lv_iload_n (pc := 117) hx hb dX6_takesNumber_117 rfl (lv_at hl 3 rfl) ?_
          refine lv_if_eq (tgt := 127) (pc := 118) hx hb dX6_takesNumber_118 (by decide) (fun c_14 => ?_) (fun c_14 => ?_)
          rotate_left
          · exact absurd (by decide) c_14
          refine lv_iload (pc := 127) hx hb dX6_takesNumber_127 (lv_at hl 5 rfl) ?_
          refine g_iast (j := tp.toNatClampNeg) (w1 := [(a 0, .inr (6, [.ref (a 1), .ref (a 2), .ref (a 3), .int (y 0), .ref (a 4), .ref (a 5), .int (nI n), .int (y 2), .int (y 3), .ref (a 6), .ref (a 7), .int (nI o), .int (nI k), .int wa, .long hs])), (a 1, .inl (eJ E, 68, .inr (.inl nw))), (a 2, .inl (eJ E, 68, .inr (.inl sd))), (a 3, .inl (eJ E, 340, .inr (.inl pt))), (a 4, .inl (eI E, 3, .inl rf)), (a 5, .inl (eI E, 120, .inl tx)), (a 6, .inl (eI E, 60, .inl lt)), (a 7, .inl (eI E, 120, .inl (upd nu tp.toNatClampNeg v)))]) (pc := 129) hx hb hK.1 hP hD hS 7 0 rfl rfl ht rfl rfl dX6_takesNumber_129 (fun H locs hP hD hS => ?_)
          refine lv_aload_n (pc := 130) hx hb dX6_takesNumber_130 rfl (lv_at hl 0 rfl) ?_
          refine g_get (v := .int (nI k)) (pc := 131) hx hb hts ii_X6_takesNumber_X6 hown hK.1 hP 0 rfl rfl 12 (by decide) ⟨rfl, rfl, rfl⟩ mm_X6_takesNumber_1 rfl dX6_takesNumber_131 ?_
          refine lv_iload (pc := 134) hx hb dX6_takesNumber_134 (lv_at hl 4 rfl) ?_
          refine lv_icmp_gt (tgt := 146) (pc := 136) hx hb dX6_takesNumber_136 (by decide) (fun c_15 => ?_) (fun c_15 => ?_)
          · refine lv_iconst (v := 1) (pc := 146) hx hb dX6_takesNumber_146 rfl ?_
            refine lv_goto (tgt := 151) (pc := 147) hx hb dX6_takesNumber_147 (by decide) ?_
            subst er12
            have hfn2 : tnT tx n 0 (sk tx n q) nu tp.toNatClampNeg wa 4 (sk tx n q) 0 = (1, (k, wa, upd nu tp.toNatClampNeg (if (0 : Int32) = 0 then v else -v))) := hk.symm.trans ((show tnT tx n 0 (sk tx n q) nu tp.toNatClampNeg wa (f + 1) k v = tnE tx n 0 (sk tx n q) nu tp.toNatClampNeg wa k v from if_pos c_13).trans (if_pos c_15))
            rw [hfn2] at hQ
            exact hQ _ _ _ _ _ rfl hP hD hS dX6_takesNumber_151
          · refine lv_aload_n (pc := 139) hx hb dX6_takesNumber_139 rfl (lv_at hl 0 rfl) ?_
            have hr16 := kX6_fails l E a y n o k wa hs nw sd pt rf tx lt (upd nu tp.toNatClampNeg v)
            rw [show (fX6_fails k).1 = 0 from rfl] at hr16
            refine gcVi (pc := 140) (w1 := [(a 0, .inr (6, [.ref (a 1), .ref (a 2), .ref (a 3), .int (y 0), .ref (a 4), .ref (a 5), .int (nI n), .int (y 2), .int (y 3), .ref (a 6), .ref (a 7), .int (nI o), .int (nI k), .int (nI k), .long hs])), (a 1, .inl (eJ E, 68, .inr (.inl nw))), (a 2, .inl (eJ E, 68, .inr (.inl sd))), (a 3, .inl (eJ E, 340, .inr (.inl pt))), (a 4, .inl (eI E, 3, .inl rf)), (a 5, .inl (eI E, 120, .inl tx)), (a 6, .inl (eI E, 60, .inl lt)), (a 7, .inl (eI E, 120, .inl (upd nu tp.toNatClampNeg v)))]) (pre := []) (post := []) (As := []) (rest := []) (q0 := 0) ⟨hx, hb, hml, hown, hts⟩ hr16 (cwV 0 hts gX6_takesNumber_X6_fails rfl rfl rfl qvX6_fails ⟨Nat.le_of_ble_eq_true rfl, Nat.le_of_ble_eq_true rfl⟩) hK hP hD hS hA rfl rfl rfl rfl rfl hl.1 rfl (Nat.le_of_ble_eq_true rfl) dX6_takesNumber_140 ⟨Nat.zero_le _, Nat.zero_le _⟩ (fun H locs hP hD hS => ?_)
            refine lv_if_eq (tgt := 150) (pc := 143) hx hb dX6_takesNumber_143 (by decide) (fun c_17 => ?_) (fun c_17 => ?_)
            rotate_left
            · exact absurd (by decide) c_17
            refine lv_iconst (v := 0) (pc := 150) hx hb dX6_takesNumber_150 rfl ?_
            subst er12
            have hfn2 : tnT tx n 0 (sk tx n q) nu tp.toNatClampNeg wa 4 (sk tx n q) 0 = (0, (k, nI k, upd nu tp.toNatClampNeg (if (0 : Int32) = 0 then v else -v))) := hk.symm.trans ((show tnT tx n 0 (sk tx n q) nu tp.toNatClampNeg wa (f + 1) k v = tnE tx n 0 (sk tx n q) nu tp.toNatClampNeg wa k v from if_pos c_13).trans (if_neg c_15))
            rw [hfn2] at hQ
            exact hQ _ _ _ _ _ rfl hP hD hS dX6_takesNumber_151
        · refine lv_aload_n (pc := 63) hx hb dX6_takesNumber_63 rfl (lv_at hl 0 rfl) ?_
          refine g_get (v := .int (nI k)) (pc := 64) hx hb hts ii_X6_takesNumber_X6 hown hK.1 hP 0 rfl rfl 12 (by decide) ⟨rfl, rfl, rfl⟩ mm_X6_takesNumber_1 rfl dX6_takesNumber_64 ?_
          refine lv_iload (pc := 67) hx hb dX6_takesNumber_67 (lv_at hl 4 rfl) ?_
          refine lv_iconst (v := 4) (pc := 69) hx hb dX6_takesNumber_69 rfl ?_
          refine lv_iadd (pc := 70) hx hb dX6_takesNumber_70 ?_
          refine lv_icmp_ne (tgt := 79) (pc := 71) hx hb dX6_takesNumber_71 (by decide) (fun c_18 => ?_) (fun c_18 => ?_)
          rotate_left
          · exact absurd c_18 (fun z => absurd ((s4 (by omega) (by omega)).mp z) (by omega))
          refine lv_bipush (v := 10) (pc := 79) hx hb dX6_takesNumber_79 rfl ?_
          refine lv_iload (pc := 81) hx hb dX6_takesNumber_81 (lv_at hl 5 rfl) ?_
          refine lv_imul (pc := 83) hx hb dX6_takesNumber_83 ?_
          refine lv_aload_n (pc := 84) hx hb dX6_takesNumber_84 rfl (lv_at hl 0 rfl) ?_
          refine g_get (v := .ref (a 5)) (pc := 85) hx hb hts ii_X6_takesNumber_X6 hown hK.1 hP 0 rfl rfl 5 (by decide) ⟨rfl, rfl, rfl⟩ mm_X6_takesNumber_2 rfl dX6_takesNumber_85 ?_
          refine lv_aload_n (pc := 88) hx hb dX6_takesNumber_88 rfl (lv_at hl 0 rfl) ?_
          refine g_get (v := .int (nI k)) (pc := 89) hx hb hts ii_X6_takesNumber_X6 hown hK.1 hP 0 rfl rfl 12 (by decide) ⟨rfl, rfl, rfl⟩ mm_X6_takesNumber_1 rfl dX6_takesNumber_89 ?_
          refine g_iald (j := k) (v := (tx k)) (pc := 92) hx hb hK.1 hP 5 0 rfl rfl (vp_in_nI (by have := ia_lt (tx := tx) (n := n) (q := k) (lo := 48) (up := 57) (by rw [er12]; exact c_13); omega) (by decide)) (nI_clamp (by omega)) rfl dX6_takesNumber_92 ?_
          refine lv_iadd (pc := 93) hx hb dX6_takesNumber_93 ?_
          refine lv_bipush (v := 48) (pc := 94) hx hb dX6_takesNumber_94 rfl ?_
          refine lv_isub (pc := 96) hx hb dX6_takesNumber_96 ?_
          refine g_topi (fun x19 ex19 => ?_)
          refine lv_istore (lv' := [(5, .int x19), (0, .ref (a 0)), (1, .int tp), (2, .int bl), (3, .int 0), (4, .int (nI (sk tx n q)))]) (pc := 97) hx hb dX6_takesNumber_97 hl (by decide) rfl (fun ls hl => ?_)
          refine lv_aload_n (pc := 99) hx hb dX6_takesNumber_99 rfl (lv_at hl 1 rfl) ?_
          refine lv_dup (pc := 100) hx hb dX6_takesNumber_100 rfl ?_
          refine g_get (v := .int (nI k)) (pc := 101) hx hb hts ii_X6_takesNumber_X6 hown hK.1 hP 0 rfl rfl 12 (by decide) ⟨rfl, rfl, rfl⟩ mm_X6_takesNumber_1 rfl dX6_takesNumber_101 ?_
          refine lv_iconst (v := 1) (pc := 104) hx hb dX6_takesNumber_104 rfl ?_
          refine lv_iadd (pc := 105) hx hb dX6_takesNumber_105 ?_
          rw [nI_1 k]
          refine g_put (w1 := [(a 0, .inr (6, [.ref (a 1), .ref (a 2), .ref (a 3), .int (y 0), .ref (a 4), .ref (a 5), .int (nI n), .int (y 2), .int (y 3), .ref (a 6), .ref (a 7), .int (nI o), .int (nI (k + 1)), .int wa, .long hs])), (a 1, .inl (eJ E, 68, .inr (.inl nw))), (a 2, .inl (eJ E, 68, .inr (.inl sd))), (a 3, .inl (eJ E, 340, .inr (.inl pt))), (a 4, .inl (eI E, 3, .inl rf)), (a 5, .inl (eI E, 120, .inl tx)), (a 6, .inl (eI E, 60, .inl lt)), (a 7, .inl (eI E, 120, .inl nu))]) (pc := 106) hx hb hts ii_X6_takesNumber_X6 tyX6 tyX6_ok nmX6 hown hK.1 hP hD hS 0 rfl rfl 12 (by decide) ⟨rfl, rfl, rfl⟩ mm_X6_takesNumber_1 rfl rfl rfl rfl (Nat.le_of_ble_eq_true rfl) rfl dX6_takesNumber_106 (fun H locs hP hD hS => ?_)
          refine lv_goto (tgt := 52) (pc := 109) hx hb dX6_takesNumber_109 (by decide) ?_
          subst ex19
          subst er12
          exact ih (k + 1) _ (by omega) (ia_lt c_13) ((show tnT tx n 0 (sk tx n q) nu tp.toNatClampNeg wa (f + 1) k v = tnT tx n 0 (sk tx n q) nu tp.toNatClampNeg wa f (k + 1) ((10 * v) + tx k - 48) from if_neg c_13).symm.trans hk) _ _ _ hP hD hS (lv_sub hl [1, 2, 3, 4, 5, 0] rfl)
    exact loop 4 (sk tx n q) 0 rfl hq2 rfl _ _ _ hP hD hS (lv_sub hl [3, 4, 5, 2, 1, 0] rfl)
  · refine lv_aload_n (pc := 8) hx hb dX6_takesNumber_8 rfl (lv_at hl 0 rfl) ?_
    refine lv_bipush (v := 45) (pc := 9) hx hb dX6_takesNumber_9 rfl ?_
    refine lv_bipush (v := 45) (pc := 11) hx hb dX6_takesNumber_11 rfl ?_
    obtain ⟨r20, er20⟩ : ∃ z : Int32, fX6_isAt tx n (sk tx n q) 45 45 = z := ⟨_, rfl⟩
    have hr20 := kX6_isAt l E a y n o (sk tx n q) wa hs nw sd pt rf tx lt nu 45 45 hn (sk_le hq)
    rw [er20] at hr20
    refine gcVi (pc := 13) (w1 := [(a 0, .inr (6, [.ref (a 1), .ref (a 2), .ref (a 3), .int (y 0), .ref (a 4), .ref (a 5), .int (nI n), .int (y 2), .int (y 3), .ref (a 6), .ref (a 7), .int (nI o), .int (nI (sk tx n q)), .int wa, .long hs])), (a 1, .inl (eJ E, 68, .inr (.inl nw))), (a 2, .inl (eJ E, 68, .inr (.inl sd))), (a 3, .inl (eJ E, 340, .inr (.inl pt))), (a 4, .inl (eI E, 3, .inl rf)), (a 5, .inl (eI E, 120, .inl tx)), (a 6, .inl (eI E, 60, .inl lt)), (a 7, .inl (eI E, 120, .inl nu))]) (pre := []) (post := []) (As := [.int 45, .int 45]) (rest := []) (q0 := 0) ⟨hx, hb, hml, hown, hts⟩ hr20 (cwV 2 hts gX6_takesNumber_X6_isAt rfl rfl rfl qvX6_isAt ⟨Nat.le_of_ble_eq_true rfl, Nat.le_of_ble_eq_true rfl⟩) hK hP hD hS hA rfl rfl rfl rfl rfl hl.1 rfl (Nat.le_of_ble_eq_true rfl) dX6_takesNumber_13 ⟨Nat.zero_le _, Nat.zero_le _⟩ (fun H locs hP hD hS => ?_)
    refine lv_if_eq (tgt := 23) (pc := 16) hx hb dX6_takesNumber_16 (by decide) (fun c_21 => ?_) (fun c_21 => ?_)
    · refine lv_iconst (v := 0) (pc := 23) hx hb dX6_takesNumber_23 rfl ?_
      refine lv_istore_n (lv' := [(3, .int 0), (0, .ref (a 0)), (1, .int tp), (2, .int bl)]) (pc := 24) hx hb dX6_takesNumber_24 rfl hl (by decide) rfl (fun ls hl => ?_)
      refine lv_aload_n (pc := 25) hx hb dX6_takesNumber_25 rfl (lv_at hl 1 rfl) ?_
      refine lv_dup (pc := 26) hx hb dX6_takesNumber_26 rfl ?_
      refine g_get (v := .int (nI (sk tx n q))) (pc := 27) hx hb hts ii_X6_takesNumber_X6 hown hK.1 hP 0 rfl rfl 12 (by decide) ⟨rfl, rfl, rfl⟩ mm_X6_takesNumber_1 rfl dX6_takesNumber_27 ?_
      refine lv_iload_n (pc := 30) hx hb dX6_takesNumber_30 rfl (lv_at hl 0 rfl) ?_
      refine lv_if_eq (tgt := 38) (pc := 31) hx hb dX6_takesNumber_31 (by decide) (fun c_22 => ?_) (fun c_22 => ?_)
      rotate_left
      · exact absurd (by decide) c_22
      refine lv_iconst (v := 0) (pc := 38) hx hb dX6_takesNumber_38 rfl ?_
      refine lv_iadd (pc := 39) hx hb dX6_takesNumber_39 ?_
      rw [show nI (sk tx n q) + 0 = nI (sk tx n q) from nI_add _ 0]
      refine g_put (w1 := [(a 0, .inr (6, [.ref (a 1), .ref (a 2), .ref (a 3), .int (y 0), .ref (a 4), .ref (a 5), .int (nI n), .int (y 2), .int (y 3), .ref (a 6), .ref (a 7), .int (nI o), .int (nI (sk tx n q)), .int wa, .long hs])), (a 1, .inl (eJ E, 68, .inr (.inl nw))), (a 2, .inl (eJ E, 68, .inr (.inl sd))), (a 3, .inl (eJ E, 340, .inr (.inl pt))), (a 4, .inl (eI E, 3, .inl rf)), (a 5, .inl (eI E, 120, .inl tx)), (a 6, .inl (eI E, 60, .inl lt)), (a 7, .inl (eI E, 120, .inl nu))]) (pc := 40) hx hb hts ii_X6_takesNumber_X6 tyX6 tyX6_ok nmX6 hown hK.1 hP hD hS 0 rfl rfl 12 (by decide) ⟨rfl, rfl, rfl⟩ mm_X6_takesNumber_1 rfl rfl rfl rfl (Nat.le_of_ble_eq_true rfl) rfl dX6_takesNumber_40 (fun H locs hP hD hS => ?_)
      refine lv_aload_n (pc := 43) hx hb dX6_takesNumber_43 rfl (lv_at hl 1 rfl) ?_
      refine g_get (v := .int (nI (sk tx n q))) (pc := 44) hx hb hts ii_X6_takesNumber_X6 hown hK.1 hP 0 rfl rfl 12 (by decide) ⟨rfl, rfl, rfl⟩ mm_X6_takesNumber_1 rfl dX6_takesNumber_44 ?_
      refine lv_istore (lv' := [(4, .int (nI (sk tx n q))), (3, .int 0), (0, .ref (a 0)), (1, .int tp), (2, .int bl)]) (pc := 47) hx hb dX6_takesNumber_47 hl (by decide) rfl (fun ls hl => ?_)
      refine lv_iconst (v := 0) (pc := 49) hx hb dX6_takesNumber_49 rfl ?_
      refine lv_istore (lv' := [(5, .int 0), (4, .int (nI (sk tx n q))), (3, .int 0), (0, .ref (a 0)), (1, .int tp), (2, .int bl)]) (pc := 50) hx hb dX6_takesNumber_50 hl (by decide) rfl (fun ls hl => ?_)
      have hq2 : sk tx n q ≤ n := (sk_le hq)
      subst er20
      have hfn : fX6_takesNumber tx n q wa nu tp bl = tnT tx n 0 (sk tx n q) nu tp.toNatClampNeg wa 4 (sk tx n q) 0 := (if_neg c_2).trans (if_pos c_21)
      rw [hfn] at hQ
      have loop : ∀ (f k : Nat) (v : Int32), (sk tx n q) + 4 = k + f → k ≤ n → tnT tx n 0 (sk tx n q) nu tp.toNatClampNeg wa f k v = tnT tx n 0 (sk tx n q) nu tp.toNatClampNeg wa 4 (sk tx n q) 0 → ∀ (H : Heap) (locs : List Loc) (ls : Array Slot), va_P E.1 vwCl [(a 0, .inr (6, [.ref (a 1), .ref (a 2), .ref (a 3), .int (y 0), .ref (a 4), .ref (a 5), .int (nI n), .int (y 2), .int (y 3), .ref (a 6), .ref (a 7), .int (nI o), .int (nI k), .int wa, .long hs])), (a 1, .inl (eJ E, 68, .inr (.inl nw))), (a 2, .inl (eJ E, 68, .inr (.inl sd))), (a 3, .inl (eJ E, 340, .inr (.inl pt))), (a 4, .inl (eI E, 3, .inl rf)), (a 5, .inl (eI E, 120, .inl tx)), (a 6, .inl (eI E, 60, .inl lt)), (a 7, .inl (eI E, 120, .inl nu))] H → va_D A [(a 0, .inr (6, [.ref (a 1), .ref (a 2), .ref (a 3), .int (y 0), .ref (a 4), .ref (a 5), .int (nI n), .int (y 2), .int (y 3), .ref (a 6), .ref (a 7), .int (nI o), .int (nI k), .int wa, .long hs])), (a 1, .inl (eJ E, 68, .inr (.inl nw))), (a 2, .inl (eJ E, 68, .inr (.inl sd))), (a 3, .inl (eJ E, 340, .inr (.inl pt))), (a 4, .inl (eI E, 3, .inl rf)), (a 5, .inl (eI E, 120, .inl tx)), (a 6, .inl (eI E, 60, .inl lt)), (a 7, .inl (eI E, 120, .inl nu))] → va_S A s.heap H locs → lv_has ls 6 [(0, .ref (a 0)), (1, .int tp), (2, .int bl), (3, .int 0), (4, .int (nI (sk tx n q))), (5, .int v)] → W p l e rX6_takesNumber s m args below meth c H locs 0 0 Q (F0 m 52 ls []) := by
        intro f
        induction f with
        | zero =>
          intro k v hi hkn hk H locs ls hP hD hS hl
          refine lv_aload_n (pc := 52) hx hb dX6_takesNumber_52 rfl (lv_at hl 0 rfl) ?_
          refine lv_bipush (v := 48) (pc := 53) hx hb dX6_takesNumber_53 rfl ?_
          refine lv_bipush (v := 57) (pc := 55) hx hb dX6_takesNumber_55 rfl ?_
          obtain ⟨r23, er23⟩ : ∃ z : Int32, fX6_isAt tx n k 48 57 = z := ⟨_, rfl⟩
          have hr23 := kX6_isAt l E a y n o k wa hs nw sd pt rf tx lt nu 48 57 hn hkn
          rw [er23] at hr23
          refine gcVi (pc := 57) (w1 := [(a 0, .inr (6, [.ref (a 1), .ref (a 2), .ref (a 3), .int (y 0), .ref (a 4), .ref (a 5), .int (nI n), .int (y 2), .int (y 3), .ref (a 6), .ref (a 7), .int (nI o), .int (nI k), .int wa, .long hs])), (a 1, .inl (eJ E, 68, .inr (.inl nw))), (a 2, .inl (eJ E, 68, .inr (.inl sd))), (a 3, .inl (eJ E, 340, .inr (.inl pt))), (a 4, .inl (eI E, 3, .inl rf)), (a 5, .inl (eI E, 120, .inl tx)), (a 6, .inl (eI E, 60, .inl lt)), (a 7, .inl (eI E, 120, .inl nu))]) (pre := []) (post := []) (As := [.int 48, .int 57]) (rest := []) (q0 := 0) ⟨hx, hb, hml, hown, hts⟩ hr23 (cwV 2 hts gX6_takesNumber_X6_isAt rfl rfl rfl qvX6_isAt ⟨Nat.le_of_ble_eq_true rfl, Nat.le_of_ble_eq_true rfl⟩) hK hP hD hS hA rfl rfl rfl rfl rfl hl.1 rfl (Nat.le_of_ble_eq_true rfl) dX6_takesNumber_57 ⟨Nat.zero_le _, Nat.zero_le _⟩ (fun H locs hP hD hS => ?_)
          refine lv_if_eq (tgt := 112) (pc := 60) hx hb dX6_takesNumber_60 (by decide) (fun c_24 => ?_) (fun c_24 => ?_)
          · refine lv_aload_n (pc := 112) hx hb dX6_takesNumber_112 rfl (lv_at hl 0 rfl) ?_
            refine g_get (v := .ref (a 7)) (pc := 113) hx hb hts ii_X6_takesNumber_X6 hown hK.1 hP 0 rfl rfl 10 (by decide) ⟨rfl, rfl, rfl⟩ mm_X6_takesNumber_3 rfl dX6_takesNumber_113 ?_
            refine lv_iload_n (pc := 116) hx hb dX6_takesNumber_116 rfl (lv_at hl 1 rfl) ?_
            refine lv_iload_n (pc := 117) hx hb dX6_takesNumber_117 rfl (lv_at hl 3 rfl) ?_
            refine lv_if_eq (tgt := 127) (pc := 118) hx hb dX6_takesNumber_118 (by decide) (fun c_25 => ?_) (fun c_25 => ?_)
            rotate_left
            · exact absurd (by decide) c_25
            refine lv_iload (pc := 127) hx hb dX6_takesNumber_127 (lv_at hl 5 rfl) ?_
            refine g_iast (j := tp.toNatClampNeg) (w1 := [(a 0, .inr (6, [.ref (a 1), .ref (a 2), .ref (a 3), .int (y 0), .ref (a 4), .ref (a 5), .int (nI n), .int (y 2), .int (y 3), .ref (a 6), .ref (a 7), .int (nI o), .int (nI k), .int wa, .long hs])), (a 1, .inl (eJ E, 68, .inr (.inl nw))), (a 2, .inl (eJ E, 68, .inr (.inl sd))), (a 3, .inl (eJ E, 340, .inr (.inl pt))), (a 4, .inl (eI E, 3, .inl rf)), (a 5, .inl (eI E, 120, .inl tx)), (a 6, .inl (eI E, 60, .inl lt)), (a 7, .inl (eI E, 120, .inl (upd nu tp.toNatClampNeg v)))]) (pc := 129) hx hb hK.1 hP hD hS 7 0 rfl rfl ht rfl rfl dX6_takesNumber_129 (fun H locs hP hD hS => ?_)
            refine lv_aload_n (pc := 130) hx hb dX6_takesNumber_130 rfl (lv_at hl 0 rfl) ?_
            refine g_get (v := .int (nI k)) (pc := 131) hx hb hts ii_X6_takesNumber_X6 hown hK.1 hP 0 rfl rfl 12 (by decide) ⟨rfl, rfl, rfl⟩ mm_X6_takesNumber_1 rfl dX6_takesNumber_131 ?_
            refine lv_iload (pc := 134) hx hb dX6_takesNumber_134 (lv_at hl 4 rfl) ?_
            refine lv_icmp_gt (tgt := 146) (pc := 136) hx hb dX6_takesNumber_136 (by decide) (fun c_26 => ?_) (fun c_26 => ?_)
            · refine lv_iconst (v := 1) (pc := 146) hx hb dX6_takesNumber_146 rfl ?_
              refine lv_goto (tgt := 151) (pc := 147) hx hb dX6_takesNumber_147 (by decide) ?_
              subst er23
              have hfn2 : tnT tx n 0 (sk tx n q) nu tp.toNatClampNeg wa 4 (sk tx n q) 0 = (1, (k, wa, upd nu tp.toNatClampNeg (if (0 : Int32) = 0 then v else -v))) := hk.symm.trans ((show tnT tx n 0 (sk tx n q) nu tp.toNatClampNeg wa 0 k v = tnE tx n 0 (sk tx n q) nu tp.toNatClampNeg wa k v from if_pos c_24).trans (if_pos c_26))
              rw [hfn2] at hQ
              exact hQ _ _ _ _ _ rfl hP hD hS dX6_takesNumber_151
            · refine lv_aload_n (pc := 139) hx hb dX6_takesNumber_139 rfl (lv_at hl 0 rfl) ?_
              have hr27 := kX6_fails l E a y n o k wa hs nw sd pt rf tx lt (upd nu tp.toNatClampNeg v)
              rw [show (fX6_fails k).1 = 0 from rfl] at hr27
              refine gcVi (pc := 140) (w1 := [(a 0, .inr (6, [.ref (a 1), .ref (a 2), .ref (a 3), .int (y 0), .ref (a 4), .ref (a 5), .int (nI n), .int (y 2), .int (y 3), .ref (a 6), .ref (a 7), .int (nI o), .int (nI k), .int (nI k), .long hs])), (a 1, .inl (eJ E, 68, .inr (.inl nw))), (a 2, .inl (eJ E, 68, .inr (.inl sd))), (a 3, .inl (eJ E, 340, .inr (.inl pt))), (a 4, .inl (eI E, 3, .inl rf)), (a 5, .inl (eI E, 120, .inl tx)), (a 6, .inl (eI E, 60, .inl lt)), (a 7, .inl (eI E, 120, .inl (upd nu tp.toNatClampNeg v)))]) (pre := []) (post := []) (As := []) (rest := []) (q0 := 0) ⟨hx, hb, hml, hown, hts⟩ hr27 (cwV 0 hts gX6_takesNumber_X6_fails rfl rfl rfl qvX6_fails ⟨Nat.le_of_ble_eq_true rfl, Nat.le_of_ble_eq_true rfl⟩) hK hP hD hS hA rfl rfl rfl rfl rfl hl.1 rfl (Nat.le_of_ble_eq_true rfl) dX6_takesNumber_140 ⟨Nat.zero_le _, Nat.zero_le _⟩ (fun H locs hP hD hS => ?_)
              refine lv_if_eq (tgt := 150) (pc := 143) hx hb dX6_takesNumber_143 (by decide) (fun c_28 => ?_) (fun c_28 => ?_)
              rotate_left
              · exact absurd (by decide) c_28
              refine lv_iconst (v := 0) (pc := 150) hx hb dX6_takesNumber_150 rfl ?_
              subst er23
              have hfn2 : tnT tx n 0 (sk tx n q) nu tp.toNatClampNeg wa 4 (sk tx n q) 0 = (0, (k, nI k, upd nu tp.toNatClampNeg (if (0 : Int32) = 0 then v else -v))) := hk.symm.trans ((show tnT tx n 0 (sk tx n q) nu tp.toNatClampNeg wa 0 k v = tnE tx n 0 (sk tx n q) nu tp.toNatClampNeg wa k v from if_pos c_24).trans (if_neg c_26))
              rw [hfn2] at hQ
              exact hQ _ _ _ _ _ rfl hP hD hS dX6_takesNumber_151
          · refine lv_aload_n (pc := 63) hx hb dX6_takesNumber_63 rfl (lv_at hl 0 rfl) ?_
            refine g_get (v := .int (nI k)) (pc := 64) hx hb hts ii_X6_takesNumber_X6 hown hK.1 hP 0 rfl rfl 12 (by decide) ⟨rfl, rfl, rfl⟩ mm_X6_takesNumber_1 rfl dX6_takesNumber_64 ?_
            refine lv_iload (pc := 67) hx hb dX6_takesNumber_67 (lv_at hl 4 rfl) ?_
            refine lv_iconst (v := 4) (pc := 69) hx hb dX6_takesNumber_69 rfl ?_
            refine lv_iadd (pc := 70) hx hb dX6_takesNumber_70 ?_
            refine lv_icmp_ne (tgt := 79) (pc := 71) hx hb dX6_takesNumber_71 (by decide) (fun c_29 => ?_) (fun c_29 => ?_)
            · exact absurd ((s4 (by omega) (by omega)).mpr (by omega)) c_29
            refine lv_aload_n (pc := 74) hx hb dX6_takesNumber_74 rfl (lv_at hl 0 rfl) ?_
            have hr30 := kX6_fails l E a y n o k wa hs nw sd pt rf tx lt nu
            rw [show (fX6_fails k).1 = 0 from rfl] at hr30
            refine gcVi (pc := 75) (w1 := [(a 0, .inr (6, [.ref (a 1), .ref (a 2), .ref (a 3), .int (y 0), .ref (a 4), .ref (a 5), .int (nI n), .int (y 2), .int (y 3), .ref (a 6), .ref (a 7), .int (nI o), .int (nI k), .int (nI k), .long hs])), (a 1, .inl (eJ E, 68, .inr (.inl nw))), (a 2, .inl (eJ E, 68, .inr (.inl sd))), (a 3, .inl (eJ E, 340, .inr (.inl pt))), (a 4, .inl (eI E, 3, .inl rf)), (a 5, .inl (eI E, 120, .inl tx)), (a 6, .inl (eI E, 60, .inl lt)), (a 7, .inl (eI E, 120, .inl nu))]) (pre := []) (post := []) (As := []) (rest := []) (q0 := 0) ⟨hx, hb, hml, hown, hts⟩ hr30 (cwV 0 hts gX6_takesNumber_X6_fails rfl rfl rfl qvX6_fails ⟨Nat.le_of_ble_eq_true rfl, Nat.le_of_ble_eq_true rfl⟩) hK hP hD hS hA rfl rfl rfl rfl rfl hl.1 rfl (Nat.le_of_ble_eq_true rfl) dX6_takesNumber_75 ⟨Nat.zero_le _, Nat.zero_le _⟩ (fun H locs hP hD hS => ?_)
            subst er23
            have hfn2 : tnT tx n 0 (sk tx n q) nu tp.toNatClampNeg wa 4 (sk tx n q) 0 = (0, (k, nI k, nu)) := hk.symm.trans (if_neg c_24)
            rw [hfn2] at hQ
            exact hQ _ _ _ _ _ rfl hP hD hS dX6_takesNumber_78
        | succ f ih =>
          intro k v hi hkn hk H locs ls hP hD hS hl
          refine lv_aload_n (pc := 52) hx hb dX6_takesNumber_52 rfl (lv_at hl 0 rfl) ?_
          refine lv_bipush (v := 48) (pc := 53) hx hb dX6_takesNumber_53 rfl ?_
          refine lv_bipush (v := 57) (pc := 55) hx hb dX6_takesNumber_55 rfl ?_
          obtain ⟨r31, er31⟩ : ∃ z : Int32, fX6_isAt tx n k 48 57 = z := ⟨_, rfl⟩
          have hr31 := kX6_isAt l E a y n o k wa hs nw sd pt rf tx lt nu 48 57 hn hkn
          rw [er31] at hr31
          refine gcVi (pc := 57) (w1 := [(a 0, .inr (6, [.ref (a 1), .ref (a 2), .ref (a 3), .int (y 0), .ref (a 4), .ref (a 5), .int (nI n), .int (y 2), .int (y 3), .ref (a 6), .ref (a 7), .int (nI o), .int (nI k), .int wa, .long hs])), (a 1, .inl (eJ E, 68, .inr (.inl nw))), (a 2, .inl (eJ E, 68, .inr (.inl sd))), (a 3, .inl (eJ E, 340, .inr (.inl pt))), (a 4, .inl (eI E, 3, .inl rf)), (a 5, .inl (eI E, 120, .inl tx)), (a 6, .inl (eI E, 60, .inl lt)), (a 7, .inl (eI E, 120, .inl nu))]) (pre := []) (post := []) (As := [.int 48, .int 57]) (rest := []) (q0 := 0) ⟨hx, hb, hml, hown, hts⟩ hr31 (cwV 2 hts gX6_takesNumber_X6_isAt rfl rfl rfl qvX6_isAt ⟨Nat.le_of_ble_eq_true rfl, Nat.le_of_ble_eq_true rfl⟩) hK hP hD hS hA rfl rfl rfl rfl rfl hl.1 rfl (Nat.le_of_ble_eq_true rfl) dX6_takesNumber_57 ⟨Nat.zero_le _, Nat.zero_le _⟩ (fun H locs hP hD hS => ?_)
          refine lv_if_eq (tgt := 112) (pc := 60) hx hb dX6_takesNumber_60 (by decide) (fun c_32 => ?_) (fun c_32 => ?_)
          · refine lv_aload_n (pc := 112) hx hb dX6_takesNumber_112 rfl (lv_at hl 0 rfl) ?_
            refine g_get (v := .ref (a 7)) (pc := 113) hx hb hts ii_X6_takesNumber_X6 hown hK.1 hP 0 rfl rfl 10 (by decide) ⟨rfl, rfl, rfl⟩ mm_X6_takesNumber_3 rfl dX6_takesNumber_113 ?_
            refine lv_iload_n (pc := 116) hx hb dX6_takesNumber_116 rfl (lv_at hl 1 rfl) ?_
            refine lv_iload_n (pc := 117) hx hb dX6_takesNumber_117 rfl (lv_at hl 3 rfl) ?_
            refine lv_if_eq (tgt := 127) (pc := 118) hx hb dX6_takesNumber_118 (by decide) (fun c_33 => ?_) (fun c_33 => ?_)
            rotate_left
            · exact absurd (by decide) c_33
            refine lv_iload (pc := 127) hx hb dX6_takesNumber_127 (lv_at hl 5 rfl) ?_
            refine g_iast (j := tp.toNatClampNeg) (w1 := [(a 0, .inr (6, [.ref (a 1), .ref (a 2), .ref (a 3), .int (y 0), .ref (a 4), .ref (a 5), .int (nI n), .int (y 2), .int (y 3), .ref (a 6), .ref (a 7), .int (nI o), .int (nI k), .int wa, .long hs])), (a 1, .inl (eJ E, 68, .inr (.inl nw))), (a 2, .inl (eJ E, 68, .inr (.inl sd))), (a 3, .inl (eJ E, 340, .inr (.inl pt))), (a 4, .inl (eI E, 3, .inl rf)), (a 5, .inl (eI E, 120, .inl tx)), (a 6, .inl (eI E, 60, .inl lt)), (a 7, .inl (eI E, 120, .inl (upd nu tp.toNatClampNeg v)))]) (pc := 129) hx hb hK.1 hP hD hS 7 0 rfl rfl ht rfl rfl dX6_takesNumber_129 (fun H locs hP hD hS => ?_)
            refine lv_aload_n (pc := 130) hx hb dX6_takesNumber_130 rfl (lv_at hl 0 rfl) ?_
            refine g_get (v := .int (nI k)) (pc := 131) hx hb hts ii_X6_takesNumber_X6 hown hK.1 hP 0 rfl rfl 12 (by decide) ⟨rfl, rfl, rfl⟩ mm_X6_takesNumber_1 rfl dX6_takesNumber_131 ?_
            refine lv_iload (pc := 134) hx hb dX6_takesNumber_134 (lv_at hl 4 rfl) ?_
            refine lv_icmp_gt (tgt := 146) (pc := 136) hx hb dX6_takesNumber_136 (by decide) (fun c_34 => ?_) (fun c_34 => ?_)
            · refine lv_iconst (v := 1) (pc := 146) hx hb dX6_takesNumber_146 rfl ?_
              refine lv_goto (tgt := 151) (pc := 147) hx hb dX6_takesNumber_147 (by decide) ?_
              subst er31
              have hfn2 : tnT tx n 0 (sk tx n q) nu tp.toNatClampNeg wa 4 (sk tx n q) 0 = (1, (k, wa, upd nu tp.toNatClampNeg (if (0 : Int32) = 0 then v else -v))) := hk.symm.trans ((show tnT tx n 0 (sk tx n q) nu tp.toNatClampNeg wa (f + 1) k v = tnE tx n 0 (sk tx n q) nu tp.toNatClampNeg wa k v from if_pos c_32).trans (if_pos c_34))
              rw [hfn2] at hQ
              exact hQ _ _ _ _ _ rfl hP hD hS dX6_takesNumber_151
            · refine lv_aload_n (pc := 139) hx hb dX6_takesNumber_139 rfl (lv_at hl 0 rfl) ?_
              have hr35 := kX6_fails l E a y n o k wa hs nw sd pt rf tx lt (upd nu tp.toNatClampNeg v)
              rw [show (fX6_fails k).1 = 0 from rfl] at hr35
              refine gcVi (pc := 140) (w1 := [(a 0, .inr (6, [.ref (a 1), .ref (a 2), .ref (a 3), .int (y 0), .ref (a 4), .ref (a 5), .int (nI n), .int (y 2), .int (y 3), .ref (a 6), .ref (a 7), .int (nI o), .int (nI k), .int (nI k), .long hs])), (a 1, .inl (eJ E, 68, .inr (.inl nw))), (a 2, .inl (eJ E, 68, .inr (.inl sd))), (a 3, .inl (eJ E, 340, .inr (.inl pt))), (a 4, .inl (eI E, 3, .inl rf)), (a 5, .inl (eI E, 120, .inl tx)), (a 6, .inl (eI E, 60, .inl lt)), (a 7, .inl (eI E, 120, .inl (upd nu tp.toNatClampNeg v)))]) (pre := []) (post := []) (As := []) (rest := []) (q0 := 0) ⟨hx, hb, hml, hown, hts⟩ hr35 (cwV 0 hts gX6_takesNumber_X6_fails rfl rfl rfl qvX6_fails ⟨Nat.le_of_ble_eq_true rfl, Nat.le_of_ble_eq_true rfl⟩) hK hP hD hS hA rfl rfl rfl rfl rfl hl.1 rfl (Nat.le_of_ble_eq_true rfl) dX6_takesNumber_140 ⟨Nat.zero_le _, Nat.zero_le _⟩ (fun H locs hP hD hS => ?_)
              refine lv_if_eq (tgt := 150) (pc := 143) hx hb dX6_takesNumber_143 (by decide) (fun c_36 => ?_) (fun c_36 => ?_)
              rotate_left
              · exact absurd (by decide) c_36
              refine lv_iconst (v := 0) (pc := 150) hx hb dX6_takesNumber_150 rfl ?_
              subst er31
              have hfn2 : tnT tx n 0 (sk tx n q) nu tp.toNatClampNeg wa 4 (sk tx n q) 0 = (0, (k, nI k, upd nu tp.toNatClampNeg (if (0 : Int32) = 0 then v else -v))) := hk.symm.trans ((show tnT tx n 0 (sk tx n q) nu tp.toNatClampNeg wa (f + 1) k v = tnE tx n 0 (sk tx n q) nu tp.toNatClampNeg wa k v from if_pos c_32).trans (if_neg c_34))
              rw [hfn2] at hQ
              exact hQ _ _ _ _ _ rfl hP hD hS dX6_takesNumber_151
          · refine lv_aload_n (pc := 63) hx hb dX6_takesNumber_63 rfl (lv_at hl 0 rfl) ?_
            refine g_get (v := .int (nI k)) (pc := 64) hx hb hts ii_X6_takesNumber_X6 hown hK.1 hP 0 rfl rfl 12 (by decide) ⟨rfl, rfl, rfl⟩ mm_X6_takesNumber_1 rfl dX6_takesNumber_64 ?_
            refine lv_iload (pc := 67) hx hb dX6_takesNumber_67 (lv_at hl 4 rfl) ?_
            refine lv_iconst (v := 4) (pc := 69) hx hb dX6_takesNumber_69 rfl ?_
            refine lv_iadd (pc := 70) hx hb dX6_takesNumber_70 ?_
            refine lv_icmp_ne (tgt := 79) (pc := 71) hx hb dX6_takesNumber_71 (by decide) (fun c_37 => ?_) (fun c_37 => ?_)
            rotate_left
            · exact absurd c_37 (fun z => absurd ((s4 (by omega) (by omega)).mp z) (by omega))
            refine lv_bipush (v := 10) (pc := 79) hx hb dX6_takesNumber_79 rfl ?_
            refine lv_iload (pc := 81) hx hb dX6_takesNumber_81 (lv_at hl 5 rfl) ?_
            refine lv_imul (pc := 83) hx hb dX6_takesNumber_83 ?_
            refine lv_aload_n (pc := 84) hx hb dX6_takesNumber_84 rfl (lv_at hl 0 rfl) ?_
            refine g_get (v := .ref (a 5)) (pc := 85) hx hb hts ii_X6_takesNumber_X6 hown hK.1 hP 0 rfl rfl 5 (by decide) ⟨rfl, rfl, rfl⟩ mm_X6_takesNumber_2 rfl dX6_takesNumber_85 ?_
            refine lv_aload_n (pc := 88) hx hb dX6_takesNumber_88 rfl (lv_at hl 0 rfl) ?_
            refine g_get (v := .int (nI k)) (pc := 89) hx hb hts ii_X6_takesNumber_X6 hown hK.1 hP 0 rfl rfl 12 (by decide) ⟨rfl, rfl, rfl⟩ mm_X6_takesNumber_1 rfl dX6_takesNumber_89 ?_
            refine g_iald (j := k) (v := (tx k)) (pc := 92) hx hb hK.1 hP 5 0 rfl rfl (vp_in_nI (by have := ia_lt (tx := tx) (n := n) (q := k) (lo := 48) (up := 57) (by rw [er31]; exact c_32); omega) (by decide)) (nI_clamp (by omega)) rfl dX6_takesNumber_92 ?_
            refine lv_iadd (pc := 93) hx hb dX6_takesNumber_93 ?_
            refine lv_bipush (v := 48) (pc := 94) hx hb dX6_takesNumber_94 rfl ?_
            refine lv_isub (pc := 96) hx hb dX6_takesNumber_96 ?_
            refine g_topi (fun x38 ex38 => ?_)
            refine lv_istore (lv' := [(5, .int x38), (0, .ref (a 0)), (1, .int tp), (2, .int bl), (3, .int 0), (4, .int (nI (sk tx n q)))]) (pc := 97) hx hb dX6_takesNumber_97 hl (by decide) rfl (fun ls hl => ?_)
            refine lv_aload_n (pc := 99) hx hb dX6_takesNumber_99 rfl (lv_at hl 1 rfl) ?_
            refine lv_dup (pc := 100) hx hb dX6_takesNumber_100 rfl ?_
            refine g_get (v := .int (nI k)) (pc := 101) hx hb hts ii_X6_takesNumber_X6 hown hK.1 hP 0 rfl rfl 12 (by decide) ⟨rfl, rfl, rfl⟩ mm_X6_takesNumber_1 rfl dX6_takesNumber_101 ?_
            refine lv_iconst (v := 1) (pc := 104) hx hb dX6_takesNumber_104 rfl ?_
            refine lv_iadd (pc := 105) hx hb dX6_takesNumber_105 ?_
            rw [nI_1 k]
            refine g_put (w1 := [(a 0, .inr (6, [.ref (a 1), .ref (a 2), .ref (a 3), .int (y 0), .ref (a 4), .ref (a 5), .int (nI n), .int (y 2), .int (y 3), .ref (a 6), .ref (a 7), .int (nI o), .int (nI (k + 1)), .int wa, .long hs])), (a 1, .inl (eJ E, 68, .inr (.inl nw))), (a 2, .inl (eJ E, 68, .inr (.inl sd))), (a 3, .inl (eJ E, 340, .inr (.inl pt))), (a 4, .inl (eI E, 3, .inl rf)), (a 5, .inl (eI E, 120, .inl tx)), (a 6, .inl (eI E, 60, .inl lt)), (a 7, .inl (eI E, 120, .inl nu))]) (pc := 106) hx hb hts ii_X6_takesNumber_X6 tyX6 tyX6_ok nmX6 hown hK.1 hP hD hS 0 rfl rfl 12 (by decide) ⟨rfl, rfl, rfl⟩ mm_X6_takesNumber_1 rfl rfl rfl rfl (Nat.le_of_ble_eq_true rfl) rfl dX6_takesNumber_106 (fun H locs hP hD hS => ?_)
            refine lv_goto (tgt := 52) (pc := 109) hx hb dX6_takesNumber_109 (by decide) ?_
            subst ex38
            subst er31
            exact ih (k + 1) _ (by omega) (ia_lt c_32) ((show tnT tx n 0 (sk tx n q) nu tp.toNatClampNeg wa (f + 1) k v = tnT tx n 0 (sk tx n q) nu tp.toNatClampNeg wa f (k + 1) ((10 * v) + tx k - 48) from if_neg c_32).symm.trans hk) _ _ _ hP hD hS (lv_sub hl [1, 2, 3, 4, 5, 0] rfl)
      exact loop 4 (sk tx n q) 0 rfl hq2 rfl _ _ _ hP hD hS (lv_sub hl [3, 4, 5, 2, 1, 0] rfl)
    · refine lv_iconst (v := 1) (pc := 19) hx hb dX6_takesNumber_19 rfl ?_
      refine lv_goto (tgt := 24) (pc := 20) hx hb dX6_takesNumber_20 (by decide) ?_
      refine lv_istore_n (lv' := [(3, .int 1), (0, .ref (a 0)), (1, .int tp), (2, .int bl)]) (pc := 24) hx hb dX6_takesNumber_24 rfl hl (by decide) rfl (fun ls hl => ?_)
      refine lv_aload_n (pc := 25) hx hb dX6_takesNumber_25 rfl (lv_at hl 1 rfl) ?_
      refine lv_dup (pc := 26) hx hb dX6_takesNumber_26 rfl ?_
      refine g_get (v := .int (nI (sk tx n q))) (pc := 27) hx hb hts ii_X6_takesNumber_X6 hown hK.1 hP 0 rfl rfl 12 (by decide) ⟨rfl, rfl, rfl⟩ mm_X6_takesNumber_1 rfl dX6_takesNumber_27 ?_
      refine lv_iload_n (pc := 30) hx hb dX6_takesNumber_30 rfl (lv_at hl 0 rfl) ?_
      refine lv_if_eq (tgt := 38) (pc := 31) hx hb dX6_takesNumber_31 (by decide) (fun c_39 => ?_) (fun c_39 => ?_)
      · exact absurd c_39 (by decide)
      refine lv_iconst (v := 1) (pc := 34) hx hb dX6_takesNumber_34 rfl ?_
      refine lv_goto (tgt := 39) (pc := 35) hx hb dX6_takesNumber_35 (by decide) ?_
      refine lv_iadd (pc := 39) hx hb dX6_takesNumber_39 ?_
      rw [nI_1 (sk tx n q)]
      refine g_put (w1 := [(a 0, .inr (6, [.ref (a 1), .ref (a 2), .ref (a 3), .int (y 0), .ref (a 4), .ref (a 5), .int (nI n), .int (y 2), .int (y 3), .ref (a 6), .ref (a 7), .int (nI o), .int (nI (sk tx n q + 1)), .int wa, .long hs])), (a 1, .inl (eJ E, 68, .inr (.inl nw))), (a 2, .inl (eJ E, 68, .inr (.inl sd))), (a 3, .inl (eJ E, 340, .inr (.inl pt))), (a 4, .inl (eI E, 3, .inl rf)), (a 5, .inl (eI E, 120, .inl tx)), (a 6, .inl (eI E, 60, .inl lt)), (a 7, .inl (eI E, 120, .inl nu))]) (pc := 40) hx hb hts ii_X6_takesNumber_X6 tyX6 tyX6_ok nmX6 hown hK.1 hP hD hS 0 rfl rfl 12 (by decide) ⟨rfl, rfl, rfl⟩ mm_X6_takesNumber_1 rfl rfl rfl rfl (Nat.le_of_ble_eq_true rfl) rfl dX6_takesNumber_40 (fun H locs hP hD hS => ?_)
      refine lv_aload_n (pc := 43) hx hb dX6_takesNumber_43 rfl (lv_at hl 1 rfl) ?_
      refine g_get (v := .int (nI (sk tx n q + 1))) (pc := 44) hx hb hts ii_X6_takesNumber_X6 hown hK.1 hP 0 rfl rfl 12 (by decide) ⟨rfl, rfl, rfl⟩ mm_X6_takesNumber_1 rfl dX6_takesNumber_44 ?_
      refine lv_istore (lv' := [(4, .int (nI (sk tx n q + 1))), (3, .int 1), (0, .ref (a 0)), (1, .int tp), (2, .int bl)]) (pc := 47) hx hb dX6_takesNumber_47 hl (by decide) rfl (fun ls hl => ?_)
      refine lv_iconst (v := 0) (pc := 49) hx hb dX6_takesNumber_49 rfl ?_
      refine lv_istore (lv' := [(5, .int 0), (4, .int (nI (sk tx n q + 1))), (3, .int 1), (0, .ref (a 0)), (1, .int tp), (2, .int bl)]) (pc := 50) hx hb dX6_takesNumber_50 hl (by decide) rfl (fun ls hl => ?_)
      have hq2 : sk tx n q + 1 ≤ n := (by subst er20; exact ia_lt c_21)
      subst er20
      have hfn : fX6_takesNumber tx n q wa nu tp bl = tnT tx n 1 (sk tx n q + 1) nu tp.toNatClampNeg wa 4 (sk tx n q + 1) 0 := (if_neg c_2).trans (if_neg c_21)
      rw [hfn] at hQ
      have loop : ∀ (f k : Nat) (v : Int32), (sk tx n q + 1) + 4 = k + f → k ≤ n → tnT tx n 1 (sk tx n q + 1) nu tp.toNatClampNeg wa f k v = tnT tx n 1 (sk tx n q + 1) nu tp.toNatClampNeg wa 4 (sk tx n q + 1) 0 → ∀ (H : Heap) (locs : List Loc) (ls : Array Slot), va_P E.1 vwCl [(a 0, .inr (6, [.ref (a 1), .ref (a 2), .ref (a 3), .int (y 0), .ref (a 4), .ref (a 5), .int (nI n), .int (y 2), .int (y 3), .ref (a 6), .ref (a 7), .int (nI o), .int (nI k), .int wa, .long hs])), (a 1, .inl (eJ E, 68, .inr (.inl nw))), (a 2, .inl (eJ E, 68, .inr (.inl sd))), (a 3, .inl (eJ E, 340, .inr (.inl pt))), (a 4, .inl (eI E, 3, .inl rf)), (a 5, .inl (eI E, 120, .inl tx)), (a 6, .inl (eI E, 60, .inl lt)), (a 7, .inl (eI E, 120, .inl nu))] H → va_D A [(a 0, .inr (6, [.ref (a 1), .ref (a 2), .ref (a 3), .int (y 0), .ref (a 4), .ref (a 5), .int (nI n), .int (y 2), .int (y 3), .ref (a 6), .ref (a 7), .int (nI o), .int (nI k), .int wa, .long hs])), (a 1, .inl (eJ E, 68, .inr (.inl nw))), (a 2, .inl (eJ E, 68, .inr (.inl sd))), (a 3, .inl (eJ E, 340, .inr (.inl pt))), (a 4, .inl (eI E, 3, .inl rf)), (a 5, .inl (eI E, 120, .inl tx)), (a 6, .inl (eI E, 60, .inl lt)), (a 7, .inl (eI E, 120, .inl nu))] → va_S A s.heap H locs → lv_has ls 6 [(0, .ref (a 0)), (1, .int tp), (2, .int bl), (3, .int 1), (4, .int (nI (sk tx n q + 1))), (5, .int v)] → W p l e rX6_takesNumber s m args below meth c H locs 0 0 Q (F0 m 52 ls []) := by
        intro f
        induction f with
        | zero =>
          intro k v hi hkn hk H locs ls hP hD hS hl
          refine lv_aload_n (pc := 52) hx hb dX6_takesNumber_52 rfl (lv_at hl 0 rfl) ?_
          refine lv_bipush (v := 48) (pc := 53) hx hb dX6_takesNumber_53 rfl ?_
          refine lv_bipush (v := 57) (pc := 55) hx hb dX6_takesNumber_55 rfl ?_
          obtain ⟨r40, er40⟩ : ∃ z : Int32, fX6_isAt tx n k 48 57 = z := ⟨_, rfl⟩
          have hr40 := kX6_isAt l E a y n o k wa hs nw sd pt rf tx lt nu 48 57 hn hkn
          rw [er40] at hr40
          refine gcVi (pc := 57) (w1 := [(a 0, .inr (6, [.ref (a 1), .ref (a 2), .ref (a 3), .int (y 0), .ref (a 4), .ref (a 5), .int (nI n), .int (y 2), .int (y 3), .ref (a 6), .ref (a 7), .int (nI o), .int (nI k), .int wa, .long hs])), (a 1, .inl (eJ E, 68, .inr (.inl nw))), (a 2, .inl (eJ E, 68, .inr (.inl sd))), (a 3, .inl (eJ E, 340, .inr (.inl pt))), (a 4, .inl (eI E, 3, .inl rf)), (a 5, .inl (eI E, 120, .inl tx)), (a 6, .inl (eI E, 60, .inl lt)), (a 7, .inl (eI E, 120, .inl nu))]) (pre := []) (post := []) (As := [.int 48, .int 57]) (rest := []) (q0 := 0) ⟨hx, hb, hml, hown, hts⟩ hr40 (cwV 2 hts gX6_takesNumber_X6_isAt rfl rfl rfl qvX6_isAt ⟨Nat.le_of_ble_eq_true rfl, Nat.le_of_ble_eq_true rfl⟩) hK hP hD hS hA rfl rfl rfl rfl rfl hl.1 rfl (Nat.le_of_ble_eq_true rfl) dX6_takesNumber_57 ⟨Nat.zero_le _, Nat.zero_le _⟩ (fun H locs hP hD hS => ?_)
          refine lv_if_eq (tgt := 112) (pc := 60) hx hb dX6_takesNumber_60 (by decide) (fun c_41 => ?_) (fun c_41 => ?_)
          · refine lv_aload_n (pc := 112) hx hb dX6_takesNumber_112 rfl (lv_at hl 0 rfl) ?_
            refine g_get (v := .ref (a 7)) (pc := 113) hx hb hts ii_X6_takesNumber_X6 hown hK.1 hP 0 rfl rfl 10 (by decide) ⟨rfl, rfl, rfl⟩ mm_X6_takesNumber_3 rfl dX6_takesNumber_113 ?_
            refine lv_iload_n (pc := 116) hx hb dX6_takesNumber_116 rfl (lv_at hl 1 rfl) ?_
            refine lv_iload_n (pc := 117) hx hb dX6_takesNumber_117 rfl (lv_at hl 3 rfl) ?_
            refine lv_if_eq (tgt := 127) (pc := 118) hx hb dX6_takesNumber_118 (by decide) (fun c_42 => ?_) (fun c_42 => ?_)
            · exact absurd c_42 (by decide)
            refine lv_iload (pc := 121) hx hb dX6_takesNumber_121 (lv_at hl 5 rfl) ?_
            refine lv_ineg (pc := 123) hx hb dX6_takesNumber_123 ?_
            refine lv_goto (tgt := 129) (pc := 124) hx hb dX6_takesNumber_124 (by decide) ?_
            refine g_topi (fun x43 ex43 => ?_)
            refine g_iast (j := tp.toNatClampNeg) (w1 := [(a 0, .inr (6, [.ref (a 1), .ref (a 2), .ref (a 3), .int (y 0), .ref (a 4), .ref (a 5), .int (nI n), .int (y 2), .int (y 3), .ref (a 6), .ref (a 7), .int (nI o), .int (nI k), .int wa, .long hs])), (a 1, .inl (eJ E, 68, .inr (.inl nw))), (a 2, .inl (eJ E, 68, .inr (.inl sd))), (a 3, .inl (eJ E, 340, .inr (.inl pt))), (a 4, .inl (eI E, 3, .inl rf)), (a 5, .inl (eI E, 120, .inl tx)), (a 6, .inl (eI E, 60, .inl lt)), (a 7, .inl (eI E, 120, .inl (upd nu tp.toNatClampNeg x43)))]) (pc := 129) hx hb hK.1 hP hD hS 7 0 rfl rfl ht rfl rfl dX6_takesNumber_129 (fun H locs hP hD hS => ?_)
            refine lv_aload_n (pc := 130) hx hb dX6_takesNumber_130 rfl (lv_at hl 0 rfl) ?_
            refine g_get (v := .int (nI k)) (pc := 131) hx hb hts ii_X6_takesNumber_X6 hown hK.1 hP 0 rfl rfl 12 (by decide) ⟨rfl, rfl, rfl⟩ mm_X6_takesNumber_1 rfl dX6_takesNumber_131 ?_
            refine lv_iload (pc := 134) hx hb dX6_takesNumber_134 (lv_at hl 4 rfl) ?_
            refine lv_icmp_gt (tgt := 146) (pc := 136) hx hb dX6_takesNumber_136 (by decide) (fun c_44 => ?_) (fun c_44 => ?_)
            · refine lv_iconst (v := 1) (pc := 146) hx hb dX6_takesNumber_146 rfl ?_
              refine lv_goto (tgt := 151) (pc := 147) hx hb dX6_takesNumber_147 (by decide) ?_
              subst ex43
              subst er40
              have hfn2 : tnT tx n 1 (sk tx n q + 1) nu tp.toNatClampNeg wa 4 (sk tx n q + 1) 0 = (1, (k, wa, upd nu tp.toNatClampNeg (if (1 : Int32) = 0 then v else -v))) := hk.symm.trans ((show tnT tx n 1 (sk tx n q + 1) nu tp.toNatClampNeg wa 0 k v = tnE tx n 1 (sk tx n q + 1) nu tp.toNatClampNeg wa k v from if_pos c_41).trans (if_pos c_44))
              rw [hfn2] at hQ
              exact hQ _ _ _ _ _ rfl hP hD hS dX6_takesNumber_151
            · refine lv_aload_n (pc := 139) hx hb dX6_takesNumber_139 rfl (lv_at hl 0 rfl) ?_
              have hr45 := kX6_fails l E a y n o k wa hs nw sd pt rf tx lt (upd nu tp.toNatClampNeg x43)
              rw [show (fX6_fails k).1 = 0 from rfl] at hr45
              refine gcVi (pc := 140) (w1 := [(a 0, .inr (6, [.ref (a 1), .ref (a 2), .ref (a 3), .int (y 0), .ref (a 4), .ref (a 5), .int (nI n), .int (y 2), .int (y 3), .ref (a 6), .ref (a 7), .int (nI o), .int (nI k), .int (nI k), .long hs])), (a 1, .inl (eJ E, 68, .inr (.inl nw))), (a 2, .inl (eJ E, 68, .inr (.inl sd))), (a 3, .inl (eJ E, 340, .inr (.inl pt))), (a 4, .inl (eI E, 3, .inl rf)), (a 5, .inl (eI E, 120, .inl tx)), (a 6, .inl (eI E, 60, .inl lt)), (a 7, .inl (eI E, 120, .inl (upd nu tp.toNatClampNeg x43)))]) (pre := []) (post := []) (As := []) (rest := []) (q0 := 0) ⟨hx, hb, hml, hown, hts⟩ hr45 (cwV 0 hts gX6_takesNumber_X6_fails rfl rfl rfl qvX6_fails ⟨Nat.le_of_ble_eq_true rfl, Nat.le_of_ble_eq_true rfl⟩) hK hP hD hS hA rfl rfl rfl rfl rfl hl.1 rfl (Nat.le_of_ble_eq_true rfl) dX6_takesNumber_140 ⟨Nat.zero_le _, Nat.zero_le _⟩ (fun H locs hP hD hS => ?_)
              refine lv_if_eq (tgt := 150) (pc := 143) hx hb dX6_takesNumber_143 (by decide) (fun c_46 => ?_) (fun c_46 => ?_)
              rotate_left
              · exact absurd (by decide) c_46
              refine lv_iconst (v := 0) (pc := 150) hx hb dX6_takesNumber_150 rfl ?_
              subst ex43
              subst er40
              have hfn2 : tnT tx n 1 (sk tx n q + 1) nu tp.toNatClampNeg wa 4 (sk tx n q + 1) 0 = (0, (k, nI k, upd nu tp.toNatClampNeg (if (1 : Int32) = 0 then v else -v))) := hk.symm.trans ((show tnT tx n 1 (sk tx n q + 1) nu tp.toNatClampNeg wa 0 k v = tnE tx n 1 (sk tx n q + 1) nu tp.toNatClampNeg wa k v from if_pos c_41).trans (if_neg c_44))
              rw [hfn2] at hQ
              exact hQ _ _ _ _ _ rfl hP hD hS dX6_takesNumber_151
          · refine lv_aload_n (pc := 63) hx hb dX6_takesNumber_63 rfl (lv_at hl 0 rfl) ?_
            refine g_get (v := .int (nI k)) (pc := 64) hx hb hts ii_X6_takesNumber_X6 hown hK.1 hP 0 rfl rfl 12 (by decide) ⟨rfl, rfl, rfl⟩ mm_X6_takesNumber_1 rfl dX6_takesNumber_64 ?_
            refine lv_iload (pc := 67) hx hb dX6_takesNumber_67 (lv_at hl 4 rfl) ?_
            refine lv_iconst (v := 4) (pc := 69) hx hb dX6_takesNumber_69 rfl ?_
            refine lv_iadd (pc := 70) hx hb dX6_takesNumber_70 ?_
            refine lv_icmp_ne (tgt := 79) (pc := 71) hx hb dX6_takesNumber_71 (by decide) (fun c_47 => ?_) (fun c_47 => ?_)
            · exact absurd ((s4 (by omega) (by omega)).mpr (by omega)) c_47
            refine lv_aload_n (pc := 74) hx hb dX6_takesNumber_74 rfl (lv_at hl 0 rfl) ?_
            have hr48 := kX6_fails l E a y n o k wa hs nw sd pt rf tx lt nu
            rw [show (fX6_fails k).1 = 0 from rfl] at hr48
            refine gcVi (pc := 75) (w1 := [(a 0, .inr (6, [.ref (a 1), .ref (a 2), .ref (a 3), .int (y 0), .ref (a 4), .ref (a 5), .int (nI n), .int (y 2), .int (y 3), .ref (a 6), .ref (a 7), .int (nI o), .int (nI k), .int (nI k), .long hs])), (a 1, .inl (eJ E, 68, .inr (.inl nw))), (a 2, .inl (eJ E, 68, .inr (.inl sd))), (a 3, .inl (eJ E, 340, .inr (.inl pt))), (a 4, .inl (eI E, 3, .inl rf)), (a 5, .inl (eI E, 120, .inl tx)), (a 6, .inl (eI E, 60, .inl lt)), (a 7, .inl (eI E, 120, .inl nu))]) (pre := []) (post := []) (As := []) (rest := []) (q0 := 0) ⟨hx, hb, hml, hown, hts⟩ hr48 (cwV 0 hts gX6_takesNumber_X6_fails rfl rfl rfl qvX6_fails ⟨Nat.le_of_ble_eq_true rfl, Nat.le_of_ble_eq_true rfl⟩) hK hP hD hS hA rfl rfl rfl rfl rfl hl.1 rfl (Nat.le_of_ble_eq_true rfl) dX6_takesNumber_75 ⟨Nat.zero_le _, Nat.zero_le _⟩ (fun H locs hP hD hS => ?_)
            subst er40
            have hfn2 : tnT tx n 1 (sk tx n q + 1) nu tp.toNatClampNeg wa 4 (sk tx n q + 1) 0 = (0, (k, nI k, nu)) := hk.symm.trans (if_neg c_41)
            rw [hfn2] at hQ
            exact hQ _ _ _ _ _ rfl hP hD hS dX6_takesNumber_78
        | succ f ih =>
          intro k v hi hkn hk H locs ls hP hD hS hl
          refine lv_aload_n (pc := 52) hx hb dX6_takesNumber_52 rfl (lv_at hl 0 rfl) ?_
          refine lv_bipush (v := 48) (pc := 53) hx hb dX6_takesNumber_53 rfl ?_
          refine lv_bipush (v := 57) (pc := 55) hx hb dX6_takesNumber_55 rfl ?_
          obtain ⟨r49, er49⟩ : ∃ z : Int32, fX6_isAt tx n k 48 57 = z := ⟨_, rfl⟩
          have hr49 := kX6_isAt l E a y n o k wa hs nw sd pt rf tx lt nu 48 57 hn hkn
          rw [er49] at hr49
          refine gcVi (pc := 57) (w1 := [(a 0, .inr (6, [.ref (a 1), .ref (a 2), .ref (a 3), .int (y 0), .ref (a 4), .ref (a 5), .int (nI n), .int (y 2), .int (y 3), .ref (a 6), .ref (a 7), .int (nI o), .int (nI k), .int wa, .long hs])), (a 1, .inl (eJ E, 68, .inr (.inl nw))), (a 2, .inl (eJ E, 68, .inr (.inl sd))), (a 3, .inl (eJ E, 340, .inr (.inl pt))), (a 4, .inl (eI E, 3, .inl rf)), (a 5, .inl (eI E, 120, .inl tx)), (a 6, .inl (eI E, 60, .inl lt)), (a 7, .inl (eI E, 120, .inl nu))]) (pre := []) (post := []) (As := [.int 48, .int 57]) (rest := []) (q0 := 0) ⟨hx, hb, hml, hown, hts⟩ hr49 (cwV 2 hts gX6_takesNumber_X6_isAt rfl rfl rfl qvX6_isAt ⟨Nat.le_of_ble_eq_true rfl, Nat.le_of_ble_eq_true rfl⟩) hK hP hD hS hA rfl rfl rfl rfl rfl hl.1 rfl (Nat.le_of_ble_eq_true rfl) dX6_takesNumber_57 ⟨Nat.zero_le _, Nat.zero_le _⟩ (fun H locs hP hD hS => ?_)
          refine lv_if_eq (tgt := 112) (pc := 60) hx hb dX6_takesNumber_60 (by decide) (fun c_50 => ?_) (fun c_50 => ?_)
          · refine lv_aload_n (pc := 112) hx hb dX6_takesNumber_112 rfl (lv_at hl 0 rfl) ?_
            refine g_get (v := .ref (a 7)) (pc := 113) hx hb hts ii_X6_takesNumber_X6 hown hK.1 hP 0 rfl rfl 10 (by decide) ⟨rfl, rfl, rfl⟩ mm_X6_takesNumber_3 rfl dX6_takesNumber_113 ?_
            refine lv_iload_n (pc := 116) hx hb dX6_takesNumber_116 rfl (lv_at hl 1 rfl) ?_
            refine lv_iload_n (pc := 117) hx hb dX6_takesNumber_117 rfl (lv_at hl 3 rfl) ?_
            refine lv_if_eq (tgt := 127) (pc := 118) hx hb dX6_takesNumber_118 (by decide) (fun c_51 => ?_) (fun c_51 => ?_)
            · exact absurd c_51 (by decide)
            refine lv_iload (pc := 121) hx hb dX6_takesNumber_121 (lv_at hl 5 rfl) ?_
            refine lv_ineg (pc := 123) hx hb dX6_takesNumber_123 ?_
            refine lv_goto (tgt := 129) (pc := 124) hx hb dX6_takesNumber_124 (by decide) ?_
            refine g_topi (fun x52 ex52 => ?_)
            refine g_iast (j := tp.toNatClampNeg) (w1 := [(a 0, .inr (6, [.ref (a 1), .ref (a 2), .ref (a 3), .int (y 0), .ref (a 4), .ref (a 5), .int (nI n), .int (y 2), .int (y 3), .ref (a 6), .ref (a 7), .int (nI o), .int (nI k), .int wa, .long hs])), (a 1, .inl (eJ E, 68, .inr (.inl nw))), (a 2, .inl (eJ E, 68, .inr (.inl sd))), (a 3, .inl (eJ E, 340, .inr (.inl pt))), (a 4, .inl (eI E, 3, .inl rf)), (a 5, .inl (eI E, 120, .inl tx)), (a 6, .inl (eI E, 60, .inl lt)), (a 7, .inl (eI E, 120, .inl (upd nu tp.toNatClampNeg x52)))]) (pc := 129) hx hb hK.1 hP hD hS 7 0 rfl rfl ht rfl rfl dX6_takesNumber_129 (fun H locs hP hD hS => ?_)
            refine lv_aload_n (pc := 130) hx hb dX6_takesNumber_130 rfl (lv_at hl 0 rfl) ?_
            refine g_get (v := .int (nI k)) (pc := 131) hx hb hts ii_X6_takesNumber_X6 hown hK.1 hP 0 rfl rfl 12 (by decide) ⟨rfl, rfl, rfl⟩ mm_X6_takesNumber_1 rfl dX6_takesNumber_131 ?_
            refine lv_iload (pc := 134) hx hb dX6_takesNumber_134 (lv_at hl 4 rfl) ?_
            refine lv_icmp_gt (tgt := 146) (pc := 136) hx hb dX6_takesNumber_136 (by decide) (fun c_53 => ?_) (fun c_53 => ?_)
            · refine lv_iconst (v := 1) (pc := 146) hx hb dX6_takesNumber_146 rfl ?_
              refine lv_goto (tgt := 151) (pc := 147) hx hb dX6_takesNumber_147 (by decide) ?_
              subst ex52
              subst er49
              have hfn2 : tnT tx n 1 (sk tx n q + 1) nu tp.toNatClampNeg wa 4 (sk tx n q + 1) 0 = (1, (k, wa, upd nu tp.toNatClampNeg (if (1 : Int32) = 0 then v else -v))) := hk.symm.trans ((show tnT tx n 1 (sk tx n q + 1) nu tp.toNatClampNeg wa (f + 1) k v = tnE tx n 1 (sk tx n q + 1) nu tp.toNatClampNeg wa k v from if_pos c_50).trans (if_pos c_53))
              rw [hfn2] at hQ
              exact hQ _ _ _ _ _ rfl hP hD hS dX6_takesNumber_151
            · refine lv_aload_n (pc := 139) hx hb dX6_takesNumber_139 rfl (lv_at hl 0 rfl) ?_
              have hr54 := kX6_fails l E a y n o k wa hs nw sd pt rf tx lt (upd nu tp.toNatClampNeg x52)
              rw [show (fX6_fails k).1 = 0 from rfl] at hr54
              refine gcVi (pc := 140) (w1 := [(a 0, .inr (6, [.ref (a 1), .ref (a 2), .ref (a 3), .int (y 0), .ref (a 4), .ref (a 5), .int (nI n), .int (y 2), .int (y 3), .ref (a 6), .ref (a 7), .int (nI o), .int (nI k), .int (nI k), .long hs])), (a 1, .inl (eJ E, 68, .inr (.inl nw))), (a 2, .inl (eJ E, 68, .inr (.inl sd))), (a 3, .inl (eJ E, 340, .inr (.inl pt))), (a 4, .inl (eI E, 3, .inl rf)), (a 5, .inl (eI E, 120, .inl tx)), (a 6, .inl (eI E, 60, .inl lt)), (a 7, .inl (eI E, 120, .inl (upd nu tp.toNatClampNeg x52)))]) (pre := []) (post := []) (As := []) (rest := []) (q0 := 0) ⟨hx, hb, hml, hown, hts⟩ hr54 (cwV 0 hts gX6_takesNumber_X6_fails rfl rfl rfl qvX6_fails ⟨Nat.le_of_ble_eq_true rfl, Nat.le_of_ble_eq_true rfl⟩) hK hP hD hS hA rfl rfl rfl rfl rfl hl.1 rfl (Nat.le_of_ble_eq_true rfl) dX6_takesNumber_140 ⟨Nat.zero_le _, Nat.zero_le _⟩ (fun H locs hP hD hS => ?_)
              refine lv_if_eq (tgt := 150) (pc := 143) hx hb dX6_takesNumber_143 (by decide) (fun c_55 => ?_) (fun c_55 => ?_)
              rotate_left
              · exact absurd (by decide) c_55
              refine lv_iconst (v := 0) (pc := 150) hx hb dX6_takesNumber_150 rfl ?_
              subst ex52
              subst er49
              have hfn2 : tnT tx n 1 (sk tx n q + 1) nu tp.toNatClampNeg wa 4 (sk tx n q + 1) 0 = (0, (k, nI k, upd nu tp.toNatClampNeg (if (1 : Int32) = 0 then v else -v))) := hk.symm.trans ((show tnT tx n 1 (sk tx n q + 1) nu tp.toNatClampNeg wa (f + 1) k v = tnE tx n 1 (sk tx n q + 1) nu tp.toNatClampNeg wa k v from if_pos c_50).trans (if_neg c_53))
              rw [hfn2] at hQ
              exact hQ _ _ _ _ _ rfl hP hD hS dX6_takesNumber_151
          · refine lv_aload_n (pc := 63) hx hb dX6_takesNumber_63 rfl (lv_at hl 0 rfl) ?_
            refine g_get (v := .int (nI k)) (pc := 64) hx hb hts ii_X6_takesNumber_X6 hown hK.1 hP 0 rfl rfl 12 (by decide) ⟨rfl, rfl, rfl⟩ mm_X6_takesNumber_1 rfl dX6_takesNumber_64 ?_
            refine lv_iload (pc := 67) hx hb dX6_takesNumber_67 (lv_at hl 4 rfl) ?_
            refine lv_iconst (v := 4) (pc := 69) hx hb dX6_takesNumber_69 rfl ?_
            refine lv_iadd (pc := 70) hx hb dX6_takesNumber_70 ?_
            refine lv_icmp_ne (tgt := 79) (pc := 71) hx hb dX6_takesNumber_71 (by decide) (fun c_56 => ?_) (fun c_56 => ?_)
            rotate_left
            · exact absurd c_56 (fun z => absurd ((s4 (by omega) (by omega)).mp z) (by omega))
            refine lv_bipush (v := 10) (pc := 79) hx hb dX6_takesNumber_79 rfl ?_
            refine lv_iload (pc := 81) hx hb dX6_takesNumber_81 (lv_at hl 5 rfl) ?_
            refine lv_imul (pc := 83) hx hb dX6_takesNumber_83 ?_
            refine lv_aload_n (pc := 84) hx hb dX6_takesNumber_84 rfl (lv_at hl 0 rfl) ?_
            refine g_get (v := .ref (a 5)) (pc := 85) hx hb hts ii_X6_takesNumber_X6 hown hK.1 hP 0 rfl rfl 5 (by decide) ⟨rfl, rfl, rfl⟩ mm_X6_takesNumber_2 rfl dX6_takesNumber_85 ?_
            refine lv_aload_n (pc := 88) hx hb dX6_takesNumber_88 rfl (lv_at hl 0 rfl) ?_
            refine g_get (v := .int (nI k)) (pc := 89) hx hb hts ii_X6_takesNumber_X6 hown hK.1 hP 0 rfl rfl 12 (by decide) ⟨rfl, rfl, rfl⟩ mm_X6_takesNumber_1 rfl dX6_takesNumber_89 ?_
            refine g_iald (j := k) (v := (tx k)) (pc := 92) hx hb hK.1 hP 5 0 rfl rfl (vp_in_nI (by have := ia_lt (tx := tx) (n := n) (q := k) (lo := 48) (up := 57) (by rw [er49]; exact c_50); omega) (by decide)) (nI_clamp (by omega)) rfl dX6_takesNumber_92 ?_
            refine lv_iadd (pc := 93) hx hb dX6_takesNumber_93 ?_
            refine lv_bipush (v := 48) (pc := 94) hx hb dX6_takesNumber_94 rfl ?_
            refine lv_isub (pc := 96) hx hb dX6_takesNumber_96 ?_
            refine g_topi (fun x57 ex57 => ?_)
            refine lv_istore (lv' := [(5, .int x57), (0, .ref (a 0)), (1, .int tp), (2, .int bl), (3, .int 1), (4, .int (nI (sk tx n q + 1)))]) (pc := 97) hx hb dX6_takesNumber_97 hl (by decide) rfl (fun ls hl => ?_)
            refine lv_aload_n (pc := 99) hx hb dX6_takesNumber_99 rfl (lv_at hl 1 rfl) ?_
            refine lv_dup (pc := 100) hx hb dX6_takesNumber_100 rfl ?_
            refine g_get (v := .int (nI k)) (pc := 101) hx hb hts ii_X6_takesNumber_X6 hown hK.1 hP 0 rfl rfl 12 (by decide) ⟨rfl, rfl, rfl⟩ mm_X6_takesNumber_1 rfl dX6_takesNumber_101 ?_
            refine lv_iconst (v := 1) (pc := 104) hx hb dX6_takesNumber_104 rfl ?_
            refine lv_iadd (pc := 105) hx hb dX6_takesNumber_105 ?_
            rw [nI_1 k]
            refine g_put (w1 := [(a 0, .inr (6, [.ref (a 1), .ref (a 2), .ref (a 3), .int (y 0), .ref (a 4), .ref (a 5), .int (nI n), .int (y 2), .int (y 3), .ref (a 6), .ref (a 7), .int (nI o), .int (nI (k + 1)), .int wa, .long hs])), (a 1, .inl (eJ E, 68, .inr (.inl nw))), (a 2, .inl (eJ E, 68, .inr (.inl sd))), (a 3, .inl (eJ E, 340, .inr (.inl pt))), (a 4, .inl (eI E, 3, .inl rf)), (a 5, .inl (eI E, 120, .inl tx)), (a 6, .inl (eI E, 60, .inl lt)), (a 7, .inl (eI E, 120, .inl nu))]) (pc := 106) hx hb hts ii_X6_takesNumber_X6 tyX6 tyX6_ok nmX6 hown hK.1 hP hD hS 0 rfl rfl 12 (by decide) ⟨rfl, rfl, rfl⟩ mm_X6_takesNumber_1 rfl rfl rfl rfl (Nat.le_of_ble_eq_true rfl) rfl dX6_takesNumber_106 (fun H locs hP hD hS => ?_)
            refine lv_goto (tgt := 52) (pc := 109) hx hb dX6_takesNumber_109 (by decide) ?_
            subst ex57
            subst er49
            exact ih (k + 1) _ (by omega) (ia_lt c_50) ((show tnT tx n 1 (sk tx n q + 1) nu tp.toNatClampNeg wa (f + 1) k v = tnT tx n 1 (sk tx n q + 1) nu tp.toNatClampNeg wa f (k + 1) ((10 * v) + tx k - 48) from if_neg c_50).symm.trans hk) _ _ _ hP hD hS (lv_sub hl [1, 2, 3, 4, 5, 0] rfl)
      exact loop 4 (sk tx n q + 1) 0 rfl hq2 rfl _ _ _ hP hD hS (lv_sub hl [3, 4, 5, 2, 1, 0] rfl)
