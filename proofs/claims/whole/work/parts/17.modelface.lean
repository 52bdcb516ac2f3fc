/-! the reference's face, but for texts -/
theorem bn_x {r x : Int32} (hr : 0 ≤ r.toInt ∧ r.toInt ≤ 1000) (hx : x = 0 ∨ x = 1) : 0 ≤ ((11 * x) + (r / 100)).toInt ∧ ((11 * x) + (r / 100)).toInt ≤ 21 := by
  have h1 := i_div_100 (x := r) (by rw [Int32.lt_iff_toInt_lt]; simp only [Int32.reduceToInt]; omega)
  have h2 : 0 ≤ (11 * x).toInt ∧ (11 * x).toInt ≤ 11 := by rcases hx with rfl | rfl <;> decide
  have h3 : ((11 * x) + (r / 100)).toInt = (11 * x).toInt + (r / 100).toInt := Jvm.Kit.i32_add (by omega) (by omega)
  omega

def fX6_bandNow (W : Nat → Int64) (i : Int32) : Int32 :=
  let x2 : Int32 := (if i ≤ 0 then 1 else 0)
  let r4 : Int32 := fX6_middle W
  (11 * x2) + (r4 / 100)
abbrev rX6_bandNow : Room := { frames := 1, cells := 0, slots := 0, locals := 24 }
theorem qvX6_bandNow : yX6_bandNow.cls = RX6 ∧ yX6_bandNow.cls ≠ "java/lang/invoke/MethodHandle" ∧ yX6_bandNow.cls ≠ "java/lang/invoke/VarHandle" ∧ (parseMethodDescriptor yX6_bandNow.desc).map (fun d => d.parameters.length) = some 1 := by decide +kernel
set_option maxHeartbeats 4000000 in
set_option maxRecDepth 100000 in
theorem kX6_bandNow (l : Launch) (E : gEnv) (a : Nat → Nat) (M : Mdl) (i : Int32) : gMi l E yX6_bandNow wsX6_bandNow rX6_bandNow [.ref (a 0), .int i] (wM E a M) (fX6_bandNow M.2.2.1 i) (wM E a M) := by
  refine gMi_of (cc := cX6_bandNow) (maxL := 2) (ret := (some .int)) (by decide) rfl rfl (Nat.le_of_ble_eq_true rfl) ?_
  intro p e s m args below meth c A Q ls hB hQ
  obtain ⟨hx, hb, hml, hown, hts, hK, hP, hD, hA, hS, hl⟩ := hB
  have hown : s.vm.findClass RX6 = some m.cls := hown
  have hP : va_P E.1 vwCl [(a 0, .inr (6, [.ref (a 1), .ref (a 2), .ref (a 3), .int (M.1 0), .ref (a 4), .ref (a 5), .int (M.1 1), .int (M.1 2), .int (M.1 3), .ref (a 6), .ref (a 7), .int (M.1 4), .int (M.1 5), .int (M.1 6), .long M.2.1])), (a 1, .inl (eJ E, 68, .inr (.inl M.2.2.1))), (a 2, .inl (eJ E, 68, .inr (.inl M.2.2.2.1))), (a 3, .inl (eJ E, 340, .inr (.inl M.2.2.2.2.1))), (a 4, .inl (eI E, 3, .inl M.2.2.2.2.2.1)), (a 5, .inl (eI E, 120, .inl M.2.2.2.2.2.2.1)), (a 6, .inl (eI E, 60, .inl M.2.2.2.2.2.2.2.1)), (a 7, .inl (eI E, 120, .inl M.2.2.2.2.2.2.2.2))] s.heap := hP
  have hD : va_D A [(a 0, .inr (6, [.ref (a 1), .ref (a 2), .ref (a 3), .int (M.1 0), .ref (a 4), .ref (a 5), .int (M.1 1), .int (M.1 2), .int (M.1 3), .ref (a 6), .ref (a 7), .int (M.1 4), .int (M.1 5), .int (M.1 6), .long M.2.1])), (a 1, .inl (eJ E, 68, .inr (.inl M.2.2.1))), (a 2, .inl (eJ E, 68, .inr (.inl M.2.2.2.1))), (a 3, .inl (eJ E, 340, .inr (.inl M.2.2.2.2.1))), (a 4, .inl (eI E, 3, .inl M.2.2.2.2.2.1)), (a 5, .inl (eI E, 120, .inl M.2.2.2.2.2.2.1)), (a 6, .inl (eI E, 60, .inl M.2.2.2.2.2.2.2.1)), (a 7, .inl (eI E, 120, .inl M.2.2.2.2.2.2.2.2))] := hD
  have hl : lv_has ls 2 [(0, .ref (a 0)), (1, .int i)] := hl
  refine lv_bipush (v := 11) (pc := 0) hx hb dX6_bandNow_0 rfl ?_
  refine lv_iload_n (pc := 2) hx hb dX6_bandNow_2 rfl (lv_at hl 1 rfl) ?_
  have J_3 : ∀ (H : Heap) (locs : List Loc) (ls : Array Slot) (x2 : Int32), (if i ≤ 0 then 1 else 0) = x2 → va_P E.1 vwCl [(a 0, .inr (6, [.ref (a 1), .ref (a 2), .ref (a 3), .int (M.1 0), .ref (a 4), .ref (a 5), .int (M.1 1), .int (M.1 2), .int (M.1 3), .ref (a 6), .ref (a 7), .int (M.1 4), .int (M.1 5), .int (M.1 6), .long M.2.1])), (a 1, .inl (eJ E, 68, .inr (.inl M.2.2.1))), (a 2, .inl (eJ E, 68, .inr (.inl M.2.2.2.1))), (a 3, .inl (eJ E, 340, .inr (.inl M.2.2.2.2.1))), (a 4, .inl (eI E, 3, .inl M.2.2.2.2.2.1)), (a 5, .inl (eI E, 120, .inl M.2.2.2.2.2.2.1)), (a 6, .inl (eI E, 60, .inl M.2.2.2.2.2.2.2.1)), (a 7, .inl (eI E, 120, .inl M.2.2.2.2.2.2.2.2))] H → va_D A [(a 0, .inr (6, [.ref (a 1), .ref (a 2), .ref (a 3), .int (M.1 0), .ref (a 4), .ref (a 5), .int (M.1 1), .int (M.1 2), .int (M.1 3), .ref (a 6), .ref (a 7), .int (M.1 4), .int (M.1 5), .int (M.1 6), .long M.2.1])), (a 1, .inl (eJ E, 68, .inr (.inl M.2.2.1))), (a 2, .inl (eJ E, 68, .inr (.inl M.2.2.2.1))), (a 3, .inl (eJ E, 340, .inr (.inl M.2.2.2.2.1))), (a 4, .inl (eI E, 3, .inl M.2.2.2.2.2.1)), (a 5, .inl (eI E, 120, .inl M.2.2.2.2.2.2.1)), (a 6, .inl (eI E, 60, .inl M.2.2.2.2.2.2.2.1)), (a 7, .inl (eI E, 120, .inl M.2.2.2.2.2.2.2.2))] → va_S A s.heap H locs → lv_has ls 2 [(0, .ref (a 0)), (1, .int i)] → W p l e rX6_bandNow s m args below meth c H locs 0 0 Q (F0 m 11 ls [.int x2, .int 11]) := by
    intro H locs ls x2 ex2 hP hD hS hl
    refine lv_imul (pc := 11) hx hb dX6_bandNow_11 ?_
    refine lv_aload_n (pc := 12) hx hb dX6_bandNow_12 rfl (lv_at hl 0 rfl) ?_
    obtain ⟨r4, er4⟩ : ∃ z : Int32, fX6_middle M.2.2.1 = z := ⟨_, rfl⟩
    have hr4 := kX6_middle l E a M
    rw [er4] at hr4
    refine gcVi (pc := 13) (w1 := [(a 0, .inr (6, [.ref (a 1), .ref (a 2), .ref (a 3), .int (M.1 0), .ref (a 4), .ref (a 5), .int (M.1 1), .int (M.1 2), .int (M.1 3), .ref (a 6), .ref (a 7), .int (M.1 4), .int (M.1 5), .int (M.1 6), .long M.2.1])), (a 1, .inl (eJ E, 68, .inr (.inl M.2.2.1))), (a 2, .inl (eJ E, 68, .inr (.inl M.2.2.2.1))), (a 3, .inl (eJ E, 340, .inr (.inl M.2.2.2.2.1))), (a 4, .inl (eI E, 3, .inl M.2.2.2.2.2.1)), (a 5, .inl (eI E, 120, .inl M.2.2.2.2.2.2.1)), (a 6, .inl (eI E, 60, .inl M.2.2.2.2.2.2.2.1)), (a 7, .inl (eI E, 120, .inl M.2.2.2.2.2.2.2.2))]) (pre := []) (post := []) (As := []) (rest := [.int (11 * x2)]) (q0 := 0) ⟨hx, hb, hml, hown, hts⟩ hr4 (cwV 0 hts gX6_bandNow_X6_middle rfl rfl rfl qvX6_middle ⟨Nat.le_of_ble_eq_true rfl, Nat.le_of_ble_eq_true rfl⟩) hK hP hD hS hA rfl rfl rfl rfl rfl hl.1 rfl (Nat.le_of_ble_eq_true rfl) dX6_bandNow_13 ⟨Nat.zero_le _, Nat.zero_le _⟩ (fun H locs hP hD hS => ?_)
    refine lv_bipush (v := 100) (pc := 16) hx hb dX6_bandNow_16 rfl ?_
    refine lv_idiv (pc := 18) hx hb dX6_bandNow_18 (by decide) ?_
    refine lv_iadd (pc := 19) hx hb dX6_bandNow_19 ?_
    subst er4
    subst ex2
    exact hQ _ _ _ _ _ rfl hP hD hS dX6_bandNow_20
  refine lv_if_le (tgt := 10) (pc := 3) hx hb dX6_bandNow_3 (by decide) (fun c_1 => ?_) (fun c_1 => ?_)
  · refine lv_iconst (v := 1) (pc := 10) hx hb dX6_bandNow_10 rfl ?_
    exact J_3 _ _ _ _ (if_pos c_1) hP hD hS (lv_sub hl [0, 1] rfl)
  · refine lv_iconst (v := 0) (pc := 6) hx hb dX6_bandNow_6 rfl ?_
    refine lv_goto (tgt := 11) (pc := 7) hx hb dX6_bandNow_7 (by decide) ?_
    exact J_3 _ _ _ _ (if_neg c_1) hP hD hS (lv_sub hl [0, 1] rfl)

theorem bn_in {W : Nat → Int64} (i : Int32) (hm : 0 ≤ (fX6_middle W).toInt ∧ (fX6_middle W).toInt ≤ 1000) : 0 ≤ (fX6_bandNow W i).toInt ∧ (fX6_bandNow W i).toInt ≤ 21 := bn_x (r := fX6_middle W) hm (by by_cases h : i ≤ 0 <;> simp [h])
theorem hv_n {i : Nat} (N : Nat) (h : i < N + 1) (hN : N < 1000) : 0 ≤ (nI i).toInt ∧ (nI i).toInt ≤ N := by rw [nI_toInt (by omega)]; omega
theorem ty_in {x : Int32} (h : 0 ≤ x.toInt ∧ x.toInt ≤ 120) (e : ¬ x = 120) : vp_in x 120 := by
  rw [← Int32.toInt_inj] at e
  simp only [Int32.reduceToInt] at e
  exact ix_of h.1 (by omega)
theorem rf_in {x : Int32} (h : 0 ≤ x.toInt ∧ x.toInt ≤ 4) (e : ¬ 3 ≤ x) : vp_in x 3 := by
  rw [Int32.le_iff_toInt_le] at e
  simp only [Int32.reduceToInt] at e
  exact ix_of h.1 (by omega)
theorem to_a {x : Int32} (h : 0 ≤ x.toInt ∧ x.toInt ≤ 11) : vp_in x 68 := ix_of h.1 (by omega)
theorem to_b {x : Int32} (h : 0 ≤ x.toInt ∧ x.toInt ≤ 11) (e : 4 ≤ x) : vp_in (x - 1) 68 := by
  rw [Int32.le_iff_toInt_le] at e
  simp only [Int32.reduceToInt] at e
  exact ix_s1 (by omega) (by omega)
theorem bd_in {sg tn w x : Int32} (e : (if fX6_in sg.toInt64 0 1 = 0 then 0 else (if fX6_in tn.toInt64 0 10 = 0 then 0 else (if fX6_in w.toInt64 0 1 = 0 then 0 else 1))) = x) (h : ¬ x = 0) : 0 ≤ ((11 * sg) + tn).toInt ∧ ((11 * sg) + tn).toInt ≤ 21 := by
  by_cases h1 : fX6_in sg.toInt64 0 1 = 0
  · rw [if_pos h1] at e; exact absurd e.symm h
  · by_cases h2 : fX6_in tn.toInt64 0 10 = 0
    · rw [if_neg h1, if_pos h2] at e; exact absurd e.symm h
    · have a1 : 0 ≤ sg.toInt ∧ sg.toInt ≤ 1 := in_i h1
      have a2 : 0 ≤ tn.toInt ∧ tn.toInt ≤ 10 := in_i h2
      have e1 : (11 * sg).toInt = 11 * sg.toInt := Jvm.Kit.i32_mul (x := 11) (by simp only [Int32.reduceToInt]; omega) (by simp only [Int32.reduceToInt]; omega)
      have e2 : ((11 * sg) + tn).toInt = (11 * sg).toInt + tn.toInt := Jvm.Kit.i32_add (by omega) (by omega)
      omega

def fX6_putLoad (M : Mdl) (i : Int32) (v : Int32) : Int32 × (Mdl) :=
  let r1 : Int32 := fX6_in i.toInt64 (-99) 99
  if r1 = 0 then
    ((-10000002), M)
  else
    if i = 0 then
      ((-10000002), M)
    else
      let r4 : Int32 := fX6_in v.toInt64 0 9999
      if r4 = 0 then
        ((-10000002), M)
      else
        let r6 : Int32 := fX6_middle M.2.2.1
        let r7 : Int32 := fX6_voltsAt M.2.2.1 r6
        let x8 : Int32 := (100 * (r7 - v)) / i
        let r9 : Int32 := fX6_bandNow M.2.2.1 i
        let x10 : Int64 := (M.2.2.1 ((24 + r9).toNatClampNeg)) + 1
        let x11 : Int64 := ((vp_updL M.2.2.1 ((24 + r9).toNatClampNeg) x10) ((46 + r9).toNatClampNeg)) + x8.toInt64
        (x8, (M.1, M.2.1, (vp_updL (vp_updL M.2.2.1 ((24 + r9).toNatClampNeg) x10) ((46 + r9).toNatClampNeg) x11), M.2.2.2.1, M.2.2.2.2.1, M.2.2.2.2.2.1, M.2.2.2.2.2.2.1, M.2.2.2.2.2.2.2.1, M.2.2.2.2.2.2.2.2))
abbrev rX6_putLoad : Room := { frames := 2, cells := 0, slots := 0, locals := 45 }
theorem mm_X6_putLoad_1 : Cond.constantLong RX6 79 (-99) ∈ wsX6_putLoad := List.mem_of_getElem? (i := 1) rfl
theorem mm_X6_putLoad_2 : Cond.constantLong RX6 81 (99) ∈ wsX6_putLoad := List.mem_of_getElem? (i := 2) rfl
theorem mm_X6_putLoad_4 : Cond.constant RX6 44 (-10000002) ∈ wsX6_putLoad := List.mem_of_getElem? (i := 4) rfl
theorem mm_X6_putLoad_3 : Cond.constantLong RX6 73 (9999) ∈ wsX6_putLoad := List.mem_of_getElem? (i := 3) rfl
theorem mm_X6_putLoad_5 : Cond.fieldLink RX6 7 "GaugeBoundsModel" "now" "[J" ∈ wsX6_putLoad := List.mem_of_getElem? (i := 5) rfl
theorem ii_X6_putLoad_X6 : ∀ w ∈ wsX60, w ∈ wsX6_putLoad := fun _ h => List.mem_cons_of_mem _ (List.mem_append_right _ (h))
theorem qvX6_putLoad : yX6_putLoad.cls = RX6 ∧ yX6_putLoad.cls ≠ "java/lang/invoke/MethodHandle" ∧ yX6_putLoad.cls ≠ "java/lang/invoke/VarHandle" ∧ (parseMethodDescriptor yX6_putLoad.desc).map (fun d => d.parameters.length) = some 2 := by decide +kernel
set_option maxHeartbeats 4000000 in
set_option maxRecDepth 100000 in
theorem kX6_putLoad (l : Launch) (E : gEnv) (a : Nat → Nat) (M : Mdl) (i : Int32) (v : Int32) (hm : 0 ≤ (fX6_middle M.2.2.1).toInt ∧ (fX6_middle M.2.2.1).toInt ≤ 1000) : gMi l E yX6_putLoad wsX6_putLoad rX6_putLoad [.ref (a 0), .int i, .int v] (wM E a M) (fX6_putLoad M i v).1 (wM E a ((fX6_putLoad M i v).2)) := by
  refine gMi_of (cc := cX6_putLoad) (maxL := 5) (ret := (some .int)) (by decide) rfl rfl (Nat.le_of_ble_eq_true rfl) ?_
  intro p e s m args below meth c A Q ls hB hQ
  obtain ⟨hx, hb, hml, hown, hts, hK, hP, hD, hA, hS, hl⟩ := hB
  have hown : s.vm.findClass RX6 = some m.cls := hown
  have hP : va_P E.1 vwCl [(a 0, .inr (6, [.ref (a 1), .ref (a 2), .ref (a 3), .int (M.1 0), .ref (a 4), .ref (a 5), .int (M.1 1), .int (M.1 2), .int (M.1 3), .ref (a 6), .ref (a 7), .int (M.1 4), .int (M.1 5), .int (M.1 6), .long M.2.1])), (a 1, .inl (eJ E, 68, .inr (.inl M.2.2.1))), (a 2, .inl (eJ E, 68, .inr (.inl M.2.2.2.1))), (a 3, .inl (eJ E, 340, .inr (.inl M.2.2.2.2.1))), (a 4, .inl (eI E, 3, .inl M.2.2.2.2.2.1)), (a 5, .inl (eI E, 120, .inl M.2.2.2.2.2.2.1)), (a 6, .inl (eI E, 60, .inl M.2.2.2.2.2.2.2.1)), (a 7, .inl (eI E, 120, .inl M.2.2.2.2.2.2.2.2))] s.heap := hP
  have hD : va_D A [(a 0, .inr (6, [.ref (a 1), .ref (a 2), .ref (a 3), .int (M.1 0), .ref (a 4), .ref (a 5), .int (M.1 1), .int (M.1 2), .int (M.1 3), .ref (a 6), .ref (a 7), .int (M.1 4), .int (M.1 5), .int (M.1 6), .long M.2.1])), (a 1, .inl (eJ E, 68, .inr (.inl M.2.2.1))), (a 2, .inl (eJ E, 68, .inr (.inl M.2.2.2.1))), (a 3, .inl (eJ E, 340, .inr (.inl M.2.2.2.2.1))), (a 4, .inl (eI E, 3, .inl M.2.2.2.2.2.1)), (a 5, .inl (eI E, 120, .inl M.2.2.2.2.2.2.1)), (a 6, .inl (eI E, 60, .inl M.2.2.2.2.2.2.2.1)), (a 7, .inl (eI E, 120, .inl M.2.2.2.2.2.2.2.2))] := hD
  have hl : lv_has ls 5 [(0, .ref (a 0)), (1, .int i), (2, .int v)] := hl
  refine lv_iload_n (pc := 0) hx hb dX6_putLoad_0 rfl (lv_at hl 1 rfl) ?_
  refine lv_i2l (v := i.toInt64) (pc := 1) hx hb dX6_putLoad_1 rfl ?_
  refine lv_ldc2 (v := (-99)) (pc := 2) hx hb hown (hts _ mm_X6_putLoad_1) dX6_putLoad_2 ?_
  refine lv_ldc2 (v := (99)) (pc := 5) hx hb hown (hts _ mm_X6_putLoad_2) dX6_putLoad_5 ?_
  obtain ⟨r1, er1⟩ : ∃ z : Int32, fX6_in i.toInt64 (-99) 99 = z := ⟨_, rfl⟩
  have hr1 := kX6_in l E i.toInt64 (-99) 99
  rw [er1] at hr1
  refine gcSi (pc := 8) (As := [.long i.toInt64, .long (-99), .long 99]) (rest := []) ⟨hx, hb, hml, hown, hts⟩ hr1 (cwS 3 hts gX6_putLoad_X6_in rfl rfl rfl qsX6_in ⟨Nat.le_of_ble_eq_true rfl, Nat.le_of_ble_eq_true rfl⟩) hK hP hD hS hA rfl hl.1 rfl (Nat.le_of_ble_eq_true rfl) dX6_putLoad_8 ⟨Nat.zero_le _, Nat.zero_le _⟩ (fun H locs hP hD hS => ?_)
  refine lv_if_eq (tgt := 30) (pc := 11) hx hb dX6_putLoad_11 (by decide) (fun c_2 => ?_) (fun c_2 => ?_)
  · refine lv_ldc (v := (-10000002)) (pc := 30) hx hb hown (hts _ mm_X6_putLoad_4) dX6_putLoad_30 ?_
    subst er1
    have hfn : fX6_putLoad M i v = _ := if_pos c_2
    rw [hfn] at hQ
    exact hQ _ _ _ _ _ rfl hP hD hS dX6_putLoad_32
  · refine lv_iload_n (pc := 14) hx hb dX6_putLoad_14 rfl (lv_at hl 1 rfl) ?_
    refine lv_if_eq (tgt := 30) (pc := 15) hx hb dX6_putLoad_15 (by decide) (fun c_3 => ?_) (fun c_3 => ?_)
    · refine lv_ldc (v := (-10000002)) (pc := 30) hx hb hown (hts _ mm_X6_putLoad_4) dX6_putLoad_30 ?_
      subst er1
      have hfn : fX6_putLoad M i v = _ := (if_neg c_2).trans (if_pos c_3)
      rw [hfn] at hQ
      exact hQ _ _ _ _ _ rfl hP hD hS dX6_putLoad_32
    · refine lv_iload_n (pc := 18) hx hb dX6_putLoad_18 rfl (lv_at hl 2 rfl) ?_
      refine lv_i2l (v := v.toInt64) (pc := 19) hx hb dX6_putLoad_19 rfl ?_
      refine lv_lconst (v := 0) (pc := 20) hx hb dX6_putLoad_20 rfl ?_
      refine lv_ldc2 (v := (9999)) (pc := 21) hx hb hown (hts _ mm_X6_putLoad_3) dX6_putLoad_21 ?_
      obtain ⟨r4, er4⟩ : ∃ z : Int32, fX6_in v.toInt64 0 9999 = z := ⟨_, rfl⟩
      have hr4 := kX6_in l E v.toInt64 0 9999
      rw [er4] at hr4
      refine gcSi (pc := 24) (As := [.long v.toInt64, .long 0, .long 9999]) (rest := []) ⟨hx, hb, hml, hown, hts⟩ hr4 (cwS 3 hts gX6_putLoad_X6_in rfl rfl rfl qsX6_in ⟨Nat.le_of_ble_eq_true rfl, Nat.le_of_ble_eq_true rfl⟩) hK hP hD hS hA rfl hl.1 rfl (Nat.le_of_ble_eq_true rfl) dX6_putLoad_24 ⟨Nat.zero_le _, Nat.zero_le _⟩ (fun H locs hP hD hS => ?_)
      refine lv_if_ne (tgt := 33) (pc := 27) hx hb dX6_putLoad_27 (by decide) (fun c_5 => ?_) (fun c_5 => ?_)
      · refine lv_bipush (v := 100) (pc := 33) hx hb dX6_putLoad_33 rfl ?_
        refine lv_aload_n (pc := 35) hx hb dX6_putLoad_35 rfl (lv_at hl 0 rfl) ?_
        refine lv_aload_n (pc := 36) hx hb dX6_putLoad_36 rfl (lv_at hl 0 rfl) ?_
        obtain ⟨r6, er6⟩ : ∃ z : Int32, fX6_middle M.2.2.1 = z := ⟨_, rfl⟩
        have hr6 := kX6_middle l E a M
        rw [er6] at hr6
        refine gcVi (pc := 37) (w1 := [(a 0, .inr (6, [.ref (a 1), .ref (a 2), .ref (a 3), .int (M.1 0), .ref (a 4), .ref (a 5), .int (M.1 1), .int (M.1 2), .int (M.1 3), .ref (a 6), .ref (a 7), .int (M.1 4), .int (M.1 5), .int (M.1 6), .long M.2.1])), (a 1, .inl (eJ E, 68, .inr (.inl M.2.2.1))), (a 2, .inl (eJ E, 68, .inr (.inl M.2.2.2.1))), (a 3, .inl (eJ E, 340, .inr (.inl M.2.2.2.2.1))), (a 4, .inl (eI E, 3, .inl M.2.2.2.2.2.1)), (a 5, .inl (eI E, 120, .inl M.2.2.2.2.2.2.1)), (a 6, .inl (eI E, 60, .inl M.2.2.2.2.2.2.2.1)), (a 7, .inl (eI E, 120, .inl M.2.2.2.2.2.2.2.2))]) (pre := []) (post := []) (As := []) (rest := [.ref (a 0), .int 100]) (q0 := 0) ⟨hx, hb, hml, hown, hts⟩ hr6 (cwV 0 hts gX6_putLoad_X6_middle rfl rfl rfl qvX6_middle ⟨Nat.le_of_ble_eq_true rfl, Nat.le_of_ble_eq_true rfl⟩) hK hP hD hS hA rfl rfl rfl rfl rfl hl.1 rfl (Nat.le_of_ble_eq_true rfl) dX6_putLoad_37 ⟨Nat.zero_le _, Nat.zero_le _⟩ (fun H locs hP hD hS => ?_)
        obtain ⟨r7, er7⟩ : ∃ z : Int32, fX6_voltsAt M.2.2.1 r6 = z := ⟨_, rfl⟩
        have hr7 := kX6_voltsAt l E a M r6 (by subst er6; exact hm)
        rw [er7] at hr7
        refine gcVi (pc := 40) (w1 := [(a 0, .inr (6, [.ref (a 1), .ref (a 2), .ref (a 3), .int (M.1 0), .ref (a 4), .ref (a 5), .int (M.1 1), .int (M.1 2), .int (M.1 3), .ref (a 6), .ref (a 7), .int (M.1 4), .int (M.1 5), .int (M.1 6), .long M.2.1])), (a 1, .inl (eJ E, 68, .inr (.inl M.2.2.1))), (a 2, .inl (eJ E, 68, .inr (.inl M.2.2.2.1))), (a 3, .inl (eJ E, 340, .inr (.inl M.2.2.2.2.1))), (a 4, .inl (eI E, 3, .inl M.2.2.2.2.2.1)), (a 5, .inl (eI E, 120, .inl M.2.2.2.2.2.2.1)), (a 6, .inl (eI E, 60, .inl M.2.2.2.2.2.2.2.1)), (a 7, .inl (eI E, 120, .inl M.2.2.2.2.2.2.2.2))]) (pre := []) (post := []) (As := [.int r6]) (rest := [.int 100]) (q0 := 0) ⟨hx, hb, hml, hown, hts⟩ hr7 (cwV 1 hts gX6_putLoad_X6_voltsAt rfl rfl rfl qvX6_voltsAt ⟨Nat.le_of_ble_eq_true rfl, Nat.le_of_ble_eq_true rfl⟩) hK hP hD hS hA rfl rfl rfl rfl rfl hl.1 rfl (Nat.le_of_ble_eq_true rfl) dX6_putLoad_40 ⟨Nat.zero_le _, Nat.zero_le _⟩ (fun H locs hP hD hS => ?_)
        refine lv_iload_n (pc := 43) hx hb dX6_putLoad_43 rfl (lv_at hl 2 rfl) ?_
        refine lv_isub (pc := 44) hx hb dX6_putLoad_44 ?_
        refine lv_imul (pc := 45) hx hb dX6_putLoad_45 ?_
        refine lv_iload_n (pc := 46) hx hb dX6_putLoad_46 rfl (lv_at hl 1 rfl) ?_
        refine lv_idiv (pc := 47) hx hb dX6_putLoad_47 c_3 ?_
        refine g_topi (fun x8 ex8 => ?_)
        refine lv_istore_n (lv' := [(3, .int x8), (0, .ref (a 0)), (1, .int i), (2, .int v)]) (pc := 48) hx hb dX6_putLoad_48 rfl hl (by decide) rfl (fun ls hl => ?_)
        refine lv_aload_n (pc := 49) hx hb dX6_putLoad_49 rfl (lv_at hl 1 rfl) ?_
        refine lv_iload_n (pc := 50) hx hb dX6_putLoad_50 rfl (lv_at hl 2 rfl) ?_
        obtain ⟨r9, er9⟩ : ∃ z : Int32, fX6_bandNow M.2.2.1 i = z := ⟨_, rfl⟩
        have hr9 := kX6_bandNow l E a M i
        rw [er9] at hr9
        refine gcVi (pc := 51) (w1 := [(a 0, .inr (6, [.ref (a 1), .ref (a 2), .ref (a 3), .int (M.1 0), .ref (a 4), .ref (a 5), .int (M.1 1), .int (M.1 2), .int (M.1 3), .ref (a 6), .ref (a 7), .int (M.1 4), .int (M.1 5), .int (M.1 6), .long M.2.1])), (a 1, .inl (eJ E, 68, .inr (.inl M.2.2.1))), (a 2, .inl (eJ E, 68, .inr (.inl M.2.2.2.1))), (a 3, .inl (eJ E, 340, .inr (.inl M.2.2.2.2.1))), (a 4, .inl (eI E, 3, .inl M.2.2.2.2.2.1)), (a 5, .inl (eI E, 120, .inl M.2.2.2.2.2.2.1)), (a 6, .inl (eI E, 60, .inl M.2.2.2.2.2.2.2.1)), (a 7, .inl (eI E, 120, .inl M.2.2.2.2.2.2.2.2))]) (pre := []) (post := []) (As := [.int i]) (rest := []) (q0 := 0) ⟨hx, hb, hml, hown, hts⟩ hr9 (cwV 1 hts gX6_putLoad_X6_bandNow rfl rfl rfl qvX6_bandNow ⟨Nat.le_of_ble_eq_true rfl, Nat.le_of_ble_eq_true rfl⟩) hK hP hD hS hA rfl rfl rfl rfl rfl hl.1 rfl (Nat.le_of_ble_eq_true rfl) dX6_putLoad_51 ⟨Nat.zero_le _, Nat.zero_le _⟩ (fun H locs hP hD hS => ?_)
        refine lv_istore (lv' := [(4, .int r9), (3, .int x8), (0, .ref (a 0)), (1, .int i), (2, .int v)]) (pc := 54) hx hb dX6_putLoad_54 hl (by decide) rfl (fun ls hl => ?_)
        refine lv_aload_n (pc := 56) hx hb dX6_putLoad_56 rfl (lv_at hl 2 rfl) ?_
        refine g_get (v := .ref (a 1)) (pc := 57) hx hb hts ii_X6_putLoad_X6 hown hK.1 hP 0 rfl rfl 0 (by decide) ⟨rfl, rfl, rfl⟩ mm_X6_putLoad_5 rfl dX6_putLoad_57 ?_
        refine lv_bipush (v := 24) (pc := 60) hx hb dX6_putLoad_60 rfl ?_
        refine lv_iload (pc := 62) hx hb dX6_putLoad_62 (lv_at hl 0 rfl) ?_
        refine lv_iadd (pc := 64) hx hb dX6_putLoad_64 ?_
        refine lv_dup2_11 (pc := 65) hx hb dX6_putLoad_65 rfl rfl ?_
        refine g_lald (j := (24 + r9).toNatClampNeg) (v := (M.2.2.1 ((24 + r9).toNatClampNeg))) (pc := 66) hx hb hK.1 hP 1 1 rfl rfl (by subst er9; exact ix_o1 24 (by decide) (bn_in i hm).1 (by have := (bn_in i hm).2; simp only [Int32.reduceToInt]; omega) (by decide)) rfl rfl dX6_putLoad_66 ?_
        refine lv_lconst (v := 1) (pc := 67) hx hb dX6_putLoad_67 rfl ?_
        refine lv_ladd (pc := 68) hx hb dX6_putLoad_68 ?_
        refine g_topl (fun x10 ex10 => ?_)
        refine g_last (j := (24 + r9).toNatClampNeg) (w1 := [(a 0, .inr (6, [.ref (a 1), .ref (a 2), .ref (a 3), .int (M.1 0), .ref (a 4), .ref (a 5), .int (M.1 1), .int (M.1 2), .int (M.1 3), .ref (a 6), .ref (a 7), .int (M.1 4), .int (M.1 5), .int (M.1 6), .long M.2.1])), (a 1, .inl (eJ E, 68, .inr (.inl (vp_updL M.2.2.1 ((24 + r9).toNatClampNeg) x10)))), (a 2, .inl (eJ E, 68, .inr (.inl M.2.2.2.1))), (a 3, .inl (eJ E, 340, .inr (.inl M.2.2.2.2.1))), (a 4, .inl (eI E, 3, .inl M.2.2.2.2.2.1)), (a 5, .inl (eI E, 120, .inl M.2.2.2.2.2.2.1)), (a 6, .inl (eI E, 60, .inl M.2.2.2.2.2.2.2.1)), (a 7, .inl (eI E, 120, .inl M.2.2.2.2.2.2.2.2))]) (pc := 69) hx hb hK.1 hP hD hS 1 1 rfl rfl (by subst er9; exact ix_o1 24 (by decide) (bn_in i hm).1 (by have := (bn_in i hm).2; simp only [Int32.reduceToInt]; omega) (by decide)) rfl rfl dX6_putLoad_69 (fun H locs hP hD hS => ?_)
        refine lv_aload_n (pc := 70) hx hb dX6_putLoad_70 rfl (lv_at hl 2 rfl) ?_
        refine g_get (v := .ref (a 1)) (pc := 71) hx hb hts ii_X6_putLoad_X6 hown hK.1 hP 0 rfl rfl 0 (by decide) ⟨rfl, rfl, rfl⟩ mm_X6_putLoad_5 rfl dX6_putLoad_71 ?_
        refine lv_bipush (v := 46) (pc := 74) hx hb dX6_putLoad_74 rfl ?_
        refine lv_iload (pc := 76) hx hb dX6_putLoad_76 (lv_at hl 0 rfl) ?_
        refine lv_iadd (pc := 78) hx hb dX6_putLoad_78 ?_
        refine lv_dup2_11 (pc := 79) hx hb dX6_putLoad_79 rfl rfl ?_
        refine g_lald (j := (46 + r9).toNatClampNeg) (v := ((vp_updL M.2.2.1 ((24 + r9).toNatClampNeg) x10) ((46 + r9).toNatClampNeg))) (pc := 80) hx hb hK.1 hP 1 1 rfl rfl (by subst er9; exact ix_o1 46 (by decide) (bn_in i hm).1 (by have := (bn_in i hm).2; simp only [Int32.reduceToInt]; omega) (by decide)) rfl rfl dX6_putLoad_80 ?_
        refine lv_iload_n (pc := 81) hx hb dX6_putLoad_81 rfl (lv_at hl 1 rfl) ?_
        refine lv_i2l (v := x8.toInt64) (pc := 82) hx hb dX6_putLoad_82 rfl ?_
        refine lv_ladd (pc := 83) hx hb dX6_putLoad_83 ?_
        refine g_topl (fun x11 ex11 => ?_)
        refine g_last (j := (46 + r9).toNatClampNeg) (w1 := [(a 0, .inr (6, [.ref (a 1), .ref (a 2), .ref (a 3), .int (M.1 0), .ref (a 4), .ref (a 5), .int (M.1 1), .int (M.1 2), .int (M.1 3), .ref (a 6), .ref (a 7), .int (M.1 4), .int (M.1 5), .int (M.1 6), .long M.2.1])), (a 1, .inl (eJ E, 68, .inr (.inl (vp_updL (vp_updL M.2.2.1 ((24 + r9).toNatClampNeg) x10) ((46 + r9).toNatClampNeg) x11)))), (a 2, .inl (eJ E, 68, .inr (.inl M.2.2.2.1))), (a 3, .inl (eJ E, 340, .inr (.inl M.2.2.2.2.1))), (a 4, .inl (eI E, 3, .inl M.2.2.2.2.2.1)), (a 5, .inl (eI E, 120, .inl M.2.2.2.2.2.2.1)), (a 6, .inl (eI E, 60, .inl M.2.2.2.2.2.2.2.1)), (a 7, .inl (eI E, 120, .inl M.2.2.2.2.2.2.2.2))]) (pc := 84) hx hb hK.1 hP hD hS 1 1 rfl rfl (by subst er9; exact ix_o1 46 (by decide) (bn_in i hm).1 (by have := (bn_in i hm).2; simp only [Int32.reduceToInt]; omega) (by decide)) rfl rfl dX6_putLoad_84 (fun H locs hP hD hS => ?_)
        refine lv_iload_n (pc := 85) hx hb dX6_putLoad_85 rfl (lv_at hl 1 rfl) ?_
        subst ex11
        subst ex10
        subst er9
        subst ex8
        subst er7
        subst er6
        subst er4
        subst er1
        have hfn : fX6_putLoad M i v = _ := (if_neg c_2).trans ((if_neg c_3).trans (if_neg c_5))
        rw [hfn] at hQ
        exact hQ _ _ _ _ _ rfl hP hD hS dX6_putLoad_86
      · refine lv_ldc (v := (-10000002)) (pc := 30) hx hb hown (hts _ mm_X6_putLoad_4) dX6_putLoad_30 ?_
        subst er4
        subst er1
        have hfn : fX6_putLoad M i v = _ := (if_neg c_2).trans ((if_neg c_3).trans (if_pos c_5))
        rw [hfn] at hQ
        exact hQ _ _ _ _ _ rfl hP hD hS dX6_putLoad_32

def fX6_begins (M : Mdl) (lo : Int32) (up : Int32) : Int32 × (Mdl) :=
  let r1 : Mdl := fX6_laysAside M
  let r2 : Int32 × (Mdl) := fX6_putCapacity r1 lo up
  let r3 : Int32 × (Mdl) := fX6_finished r2.2 r2.1
  r3
abbrev rX6_begins : Room := { frames := 2, cells := 0, slots := 0, locals := 49 }
theorem qvX6_begins : yX6_begins.cls = RX6 ∧ yX6_begins.cls ≠ "java/lang/invoke/MethodHandle" ∧ yX6_begins.cls ≠ "java/lang/invoke/VarHandle" ∧ (parseMethodDescriptor yX6_begins.desc).map (fun d => d.parameters.length) = some 2 := by decide +kernel
set_option maxHeartbeats 4000000 in
set_option maxRecDepth 100000 in
theorem kX6_begins (l : Launch) (E : gEnv) (a : Nat → Nat) (M : Mdl) (lo : Int32) (up : Int32) (hn : 0 ≤ ((fX6_putCapacity (fX6_laysAside M) lo up).2.1 0).toInt ∧ ((fX6_putCapacity (fX6_laysAside M) lo up).2.1 0).toInt ≤ 5) (hv : ¬ (-10000002) < (fX6_putCapacity (fX6_laysAside M) lo up).1 → vp_in ((-10000002) - (fX6_putCapacity (fX6_laysAside M) lo up).1) 3) : gMi l E yX6_begins wsX6_begins rX6_begins [.ref (a 0), .int lo, .int up] (wM E a M) (fX6_begins M lo up).1 (wM E a ((fX6_begins M lo up).2)) := by
  refine gMi_of (cc := cX6_begins) (maxL := 3) (ret := (some .int)) (by decide) rfl rfl (Nat.le_of_ble_eq_true rfl) ?_
  intro p e s m args below meth c A Q ls hB hQ
  obtain ⟨hx, hb, hml, hown, hts, hK, hP, hD, hA, hS, hl⟩ := hB
  have hown : s.vm.findClass RX6 = some m.cls := hown
  have hP : va_P E.1 vwCl [(a 0, .inr (6, [.ref (a 1), .ref (a 2), .ref (a 3), .int (M.1 0), .ref (a 4), .ref (a 5), .int (M.1 1), .int (M.1 2), .int (M.1 3), .ref (a 6), .ref (a 7), .int (M.1 4), .int (M.1 5), .int (M.1 6), .long M.2.1])), (a 1, .inl (eJ E, 68, .inr (.inl M.2.2.1))), (a 2, .inl (eJ E, 68, .inr (.inl M.2.2.2.1))), (a 3, .inl (eJ E, 340, .inr (.inl M.2.2.2.2.1))), (a 4, .inl (eI E, 3, .inl M.2.2.2.2.2.1)), (a 5, .inl (eI E, 120, .inl M.2.2.2.2.2.2.1)), (a 6, .inl (eI E, 60, .inl M.2.2.2.2.2.2.2.1)), (a 7, .inl (eI E, 120, .inl M.2.2.2.2.2.2.2.2))] s.heap := hP
  have hD : va_D A [(a 0, .inr (6, [.ref (a 1), .ref (a 2), .ref (a 3), .int (M.1 0), .ref (a 4), .ref (a 5), .int (M.1 1), .int (M.1 2), .int (M.1 3), .ref (a 6), .ref (a 7), .int (M.1 4), .int (M.1 5), .int (M.1 6), .long M.2.1])), (a 1, .inl (eJ E, 68, .inr (.inl M.2.2.1))), (a 2, .inl (eJ E, 68, .inr (.inl M.2.2.2.1))), (a 3, .inl (eJ E, 340, .inr (.inl M.2.2.2.2.1))), (a 4, .inl (eI E, 3, .inl M.2.2.2.2.2.1)), (a 5, .inl (eI E, 120, .inl M.2.2.2.2.2.2.1)), (a 6, .inl (eI E, 60, .inl M.2.2.2.2.2.2.2.1)), (a 7, .inl (eI E, 120, .inl M.2.2.2.2.2.2.2.2))] := hD
  have hl : lv_has ls 3 [(0, .ref (a 0)), (1, .int lo), (2, .int up)] := hl
  refine lv_aload_n (pc := 0) hx hb dX6_begins_0 rfl (lv_at hl 0 rfl) ?_
  obtain ⟨r1, er1⟩ : ∃ z : Mdl, fX6_laysAside M = z := ⟨_, rfl⟩
  have hr1 := kX6_laysAside l E a M
  rw [er1] at hr1
  refine gcVv (pc := 1) (w1 := [(a 0, .inr (6, [.ref (a 1), .ref (a 2), .ref (a 3), .int (r1.1 0), .ref (a 4), .ref (a 5), .int (r1.1 1), .int (r1.1 2), .int (r1.1 3), .ref (a 6), .ref (a 7), .int (r1.1 4), .int (r1.1 5), .int (r1.1 6), .long r1.2.1])), (a 1, .inl (eJ E, 68, .inr (.inl r1.2.2.1))), (a 2, .inl (eJ E, 68, .inr (.inl r1.2.2.2.1))), (a 3, .inl (eJ E, 340, .inr (.inl r1.2.2.2.2.1))), (a 4, .inl (eI E, 3, .inl r1.2.2.2.2.2.1)), (a 5, .inl (eI E, 120, .inl r1.2.2.2.2.2.2.1)), (a 6, .inl (eI E, 60, .inl r1.2.2.2.2.2.2.2.1)), (a 7, .inl (eI E, 120, .inl r1.2.2.2.2.2.2.2.2))]) (pre := []) (post := []) (As := []) (rest := []) (q0 := 0) ⟨hx, hb, hml, hown, hts⟩ hr1 (cwV 0 hts gX6_begins_X6_laysAside rfl rfl rfl qvX6_laysAside ⟨Nat.le_of_ble_eq_true rfl, Nat.le_of_ble_eq_true rfl⟩) hK hP hD hS hA rfl rfl rfl rfl rfl hl.1 rfl (Nat.le_of_ble_eq_true rfl) dX6_begins_1 ⟨Nat.zero_le _, Nat.zero_le _⟩ (fun H locs hP hD hS => ?_)
  refine lv_aload_n (pc := 4) hx hb dX6_begins_4 rfl (lv_at hl 0 rfl) ?_
  refine lv_aload_n (pc := 5) hx hb dX6_begins_5 rfl (lv_at hl 0 rfl) ?_
  refine lv_iload_n (pc := 6) hx hb dX6_begins_6 rfl (lv_at hl 1 rfl) ?_
  refine lv_iload_n (pc := 7) hx hb dX6_begins_7 rfl (lv_at hl 2 rfl) ?_
  obtain ⟨r2, er2⟩ : ∃ z : Int32 × (Mdl), fX6_putCapacity r1 lo up = z := ⟨_, rfl⟩
  have hr2 := kX6_putCapacity l E a r1 lo up
  rw [er2] at hr2
  refine gcVi (pc := 8) (w1 := [(a 0, .inr (6, [.ref (a 1), .ref (a 2), .ref (a 3), .int (r2.2.1 0), .ref (a 4), .ref (a 5), .int (r2.2.1 1), .int (r2.2.1 2), .int (r2.2.1 3), .ref (a 6), .ref (a 7), .int (r2.2.1 4), .int (r2.2.1 5), .int (r2.2.1 6), .long r2.2.2.1])), (a 1, .inl (eJ E, 68, .inr (.inl r2.2.2.2.1))), (a 2, .inl (eJ E, 68, .inr (.inl r2.2.2.2.2.1))), (a 3, .inl (eJ E, 340, .inr (.inl r2.2.2.2.2.2.1))), (a 4, .inl (eI E, 3, .inl r2.2.2.2.2.2.2.1)), (a 5, .inl (eI E, 120, .inl r2.2.2.2.2.2.2.2.1)), (a 6, .inl (eI E, 60, .inl r2.2.2.2.2.2.2.2.2.1)), (a 7, .inl (eI E, 120, .inl r2.2.2.2.2.2.2.2.2.2))]) (pre := []) (post := []) (As := [.int lo, .int up]) (rest := [.ref (a 0)]) (q0 := 0) ⟨hx, hb, hml, hown, hts⟩ hr2 (cwV 2 hts gX6_begins_X6_putCapacity rfl rfl rfl qvX6_putCapacity ⟨Nat.le_of_ble_eq_true rfl, Nat.le_of_ble_eq_true rfl⟩) hK hP hD hS hA rfl rfl rfl rfl rfl hl.1 rfl (Nat.le_of_ble_eq_true rfl) dX6_begins_8 ⟨Nat.zero_le _, Nat.zero_le _⟩ (fun H locs hP hD hS => ?_)
  obtain ⟨r3, er3⟩ : ∃ z : Int32 × (Mdl), fX6_finished r2.2 r2.1 = z := ⟨_, rfl⟩
  have hr3 := kX6_finished l E a r2.2 r2.1 (by subst er2; subst er1; exact hn) (by subst er2; subst er1; exact hv)
  rw [er3] at hr3
  refine gcVi (pc := 11) (w1 := [(a 0, .inr (6, [.ref (a 1), .ref (a 2), .ref (a 3), .int (r3.2.1 0), .ref (a 4), .ref (a 5), .int (r3.2.1 1), .int (r3.2.1 2), .int (r3.2.1 3), .ref (a 6), .ref (a 7), .int (r3.2.1 4), .int (r3.2.1 5), .int (r3.2.1 6), .long r3.2.2.1])), (a 1, .inl (eJ E, 68, .inr (.inl r3.2.2.2.1))), (a 2, .inl (eJ E, 68, .inr (.inl r3.2.2.2.2.1))), (a 3, .inl (eJ E, 340, .inr (.inl r3.2.2.2.2.2.1))), (a 4, .inl (eI E, 3, .inl r3.2.2.2.2.2.2.1)), (a 5, .inl (eI E, 120, .inl r3.2.2.2.2.2.2.2.1)), (a 6, .inl (eI E, 60, .inl r3.2.2.2.2.2.2.2.2.1)), (a 7, .inl (eI E, 120, .inl r3.2.2.2.2.2.2.2.2.2))]) (pre := []) (post := []) (As := [.int r2.1]) (rest := []) (q0 := 0) ⟨hx, hb, hml, hown, hts⟩ hr3 (cwV 1 hts gX6_begins_X6_finished rfl rfl rfl qvX6_finished ⟨Nat.le_of_ble_eq_true rfl, Nat.le_of_ble_eq_true rfl⟩) hK hP hD hS hA rfl rfl rfl rfl rfl hl.1 rfl (Nat.le_of_ble_eq_true rfl) dX6_begins_11 ⟨Nat.zero_le _, Nat.zero_le _⟩ (fun H locs hP hD hS => ?_)
  have hfn : fX6_begins M lo up = r3 := by
    subst er3
    subst er2
    subst er1
    exact rfl
  rw [hfn] at hQ
  exact hQ _ _ _ _ _ rfl hP hD hS dX6_begins_14

def fX6_holds (M : Mdl) (lo : Int32) (up : Int32) : Int32 × (Mdl) :=
  let r1 : Mdl := fX6_laysAside M
  let r2 : Int32 × (Mdl) := fX6_putCharge r1 lo up
  let r3 : Int32 × (Mdl) := fX6_finished r2.2 r2.1
  r3
abbrev rX6_holds : Room := { frames := 2, cells := 0, slots := 0, locals := 48 }
theorem qvX6_holds : yX6_holds.cls = RX6 ∧ yX6_holds.cls ≠ "java/lang/invoke/MethodHandle" ∧ yX6_holds.cls ≠ "java/lang/invoke/VarHandle" ∧ (parseMethodDescriptor yX6_holds.desc).map (fun d => d.parameters.length) = some 2 := by decide +kernel
set_option maxHeartbeats 4000000 in
set_option maxRecDepth 100000 in
theorem kX6_holds (l : Launch) (E : gEnv) (a : Nat → Nat) (M : Mdl) (lo : Int32) (up : Int32) (hn : 0 ≤ ((fX6_putCharge (fX6_laysAside M) lo up).2.1 0).toInt ∧ ((fX6_putCharge (fX6_laysAside M) lo up).2.1 0).toInt ≤ 5) (hv : ¬ (-10000002) < (fX6_putCharge (fX6_laysAside M) lo up).1 → vp_in ((-10000002) - (fX6_putCharge (fX6_laysAside M) lo up).1) 3) : gMi l E yX6_holds wsX6_holds rX6_holds [.ref (a 0), .int lo, .int up] (wM E a M) (fX6_holds M lo up).1 (wM E a ((fX6_holds M lo up).2)) := by
  refine gMi_of (cc := cX6_holds) (maxL := 3) (ret := (some .int)) (by decide) rfl rfl (Nat.le_of_ble_eq_true rfl) ?_
  intro p e s m args below meth c A Q ls hB hQ
  obtain ⟨hx, hb, hml, hown, hts, hK, hP, hD, hA, hS, hl⟩ := hB
  have hown : s.vm.findClass RX6 = some m.cls := hown
  have hP : va_P E.1 vwCl [(a 0, .inr (6, [.ref (a 1), .ref (a 2), .ref (a 3), .int (M.1 0), .ref (a 4), .ref (a 5), .int (M.1 1), .int (M.1 2), .int (M.1 3), .ref (a 6), .ref (a 7), .int (M.1 4), .int (M.1 5), .int (M.1 6), .long M.2.1])), (a 1, .inl (eJ E, 68, .inr (.inl M.2.2.1))), (a 2, .inl (eJ E, 68, .inr (.inl M.2.2.2.1))), (a 3, .inl (eJ E, 340, .inr (.inl M.2.2.2.2.1))), (a 4, .inl (eI E, 3, .inl M.2.2.2.2.2.1)), (a 5, .inl (eI E, 120, .inl M.2.2.2.2.2.2.1)), (a 6, .inl (eI E, 60, .inl M.2.2.2.2.2.2.2.1)), (a 7, .inl (eI E, 120, .inl M.2.2.2.2.2.2.2.2))] s.heap := hP
  have hD : va_D A [(a 0, .inr (6, [.ref (a 1), .ref (a 2), .ref (a 3), .int (M.1 0), .ref (a 4), .ref (a 5), .int (M.1 1), .int (M.1 2), .int (M.1 3), .ref (a 6), .ref (a 7), .int (M.1 4), .int (M.1 5), .int (M.1 6), .long M.2.1])), (a 1, .inl (eJ E, 68, .inr (.inl M.2.2.1))), (a 2, .inl (eJ E, 68, .inr (.inl M.2.2.2.1))), (a 3, .inl (eJ E, 340, .inr (.inl M.2.2.2.2.1))), (a 4, .inl (eI E, 3, .inl M.2.2.2.2.2.1)), (a 5, .inl (eI E, 120, .inl M.2.2.2.2.2.2.1)), (a 6, .inl (eI E, 60, .inl M.2.2.2.2.2.2.2.1)), (a 7, .inl (eI E, 120, .inl M.2.2.2.2.2.2.2.2))] := hD
  have hl : lv_has ls 3 [(0, .ref (a 0)), (1, .int lo), (2, .int up)] := hl
  refine lv_aload_n (pc := 0) hx hb dX6_holds_0 rfl (lv_at hl 0 rfl) ?_
  obtain ⟨r1, er1⟩ : ∃ z : Mdl, fX6_laysAside M = z := ⟨_, rfl⟩
  have hr1 := kX6_laysAside l E a M
  rw [er1] at hr1
  refine gcVv (pc := 1) (w1 := [(a 0, .inr (6, [.ref (a 1), .ref (a 2), .ref (a 3), .int (r1.1 0), .ref (a 4), .ref (a 5), .int (r1.1 1), .int (r1.1 2), .int (r1.1 3), .ref (a 6), .ref (a 7), .int (r1.1 4), .int (r1.1 5), .int (r1.1 6), .long r1.2.1])), (a 1, .inl (eJ E, 68, .inr (.inl r1.2.2.1))), (a 2, .inl (eJ E, 68, .inr (.inl r1.2.2.2.1))), (a 3, .inl (eJ E, 340, .inr (.inl r1.2.2.2.2.1))), (a 4, .inl (eI E, 3, .inl r1.2.2.2.2.2.1)), (a 5, .inl (eI E, 120, .inl r1.2.2.2.2.2.2.1)), (a 6, .inl (eI E, 60, .inl r1.2.2.2.2.2.2.2.1)), (a 7, .inl (eI E, 120, .inl r1.2.2.2.2.2.2.2.2))]) (pre := []) (post := []) (As := []) (rest := []) (q0 := 0) ⟨hx, hb, hml, hown, hts⟩ hr1 (cwV 0 hts gX6_holds_X6_laysAside rfl rfl rfl qvX6_laysAside ⟨Nat.le_of_ble_eq_true rfl, Nat.le_of_ble_eq_true rfl⟩) hK hP hD hS hA rfl rfl rfl rfl rfl hl.1 rfl (Nat.le_of_ble_eq_true rfl) dX6_holds_1 ⟨Nat.zero_le _, Nat.zero_le _⟩ (fun H locs hP hD hS => ?_)
  refine lv_aload_n (pc := 4) hx hb dX6_holds_4 rfl (lv_at hl 0 rfl) ?_
  refine lv_aload_n (pc := 5) hx hb dX6_holds_5 rfl (lv_at hl 0 rfl) ?_
  refine lv_iload_n (pc := 6) hx hb dX6_holds_6 rfl (lv_at hl 1 rfl) ?_
  refine lv_iload_n (pc := 7) hx hb dX6_holds_7 rfl (lv_at hl 2 rfl) ?_
  obtain ⟨r2, er2⟩ : ∃ z : Int32 × (Mdl), fX6_putCharge r1 lo up = z := ⟨_, rfl⟩
  have hr2 := kX6_putCharge l E a r1 lo up
  rw [er2] at hr2
  refine gcVi (pc := 8) (w1 := [(a 0, .inr (6, [.ref (a 1), .ref (a 2), .ref (a 3), .int (r2.2.1 0), .ref (a 4), .ref (a 5), .int (r2.2.1 1), .int (r2.2.1 2), .int (r2.2.1 3), .ref (a 6), .ref (a 7), .int (r2.2.1 4), .int (r2.2.1 5), .int (r2.2.1 6), .long r2.2.2.1])), (a 1, .inl (eJ E, 68, .inr (.inl r2.2.2.2.1))), (a 2, .inl (eJ E, 68, .inr (.inl r2.2.2.2.2.1))), (a 3, .inl (eJ E, 340, .inr (.inl r2.2.2.2.2.2.1))), (a 4, .inl (eI E, 3, .inl r2.2.2.2.2.2.2.1)), (a 5, .inl (eI E, 120, .inl r2.2.2.2.2.2.2.2.1)), (a 6, .inl (eI E, 60, .inl r2.2.2.2.2.2.2.2.2.1)), (a 7, .inl (eI E, 120, .inl r2.2.2.2.2.2.2.2.2.2))]) (pre := []) (post := []) (As := [.int lo, .int up]) (rest := [.ref (a 0)]) (q0 := 0) ⟨hx, hb, hml, hown, hts⟩ hr2 (cwV 2 hts gX6_holds_X6_putCharge rfl rfl rfl qvX6_putCharge ⟨Nat.le_of_ble_eq_true rfl, Nat.le_of_ble_eq_true rfl⟩) hK hP hD hS hA rfl rfl rfl rfl rfl hl.1 rfl (Nat.le_of_ble_eq_true rfl) dX6_holds_8 ⟨Nat.zero_le _, Nat.zero_le _⟩ (fun H locs hP hD hS => ?_)
  obtain ⟨r3, er3⟩ : ∃ z : Int32 × (Mdl), fX6_finished r2.2 r2.1 = z := ⟨_, rfl⟩
  have hr3 := kX6_finished l E a r2.2 r2.1 (by subst er2; subst er1; exact hn) (by subst er2; subst er1; exact hv)
  rw [er3] at hr3
  refine gcVi (pc := 11) (w1 := [(a 0, .inr (6, [.ref (a 1), .ref (a 2), .ref (a 3), .int (r3.2.1 0), .ref (a 4), .ref (a 5), .int (r3.2.1 1), .int (r3.2.1 2), .int (r3.2.1 3), .ref (a 6), .ref (a 7), .int (r3.2.1 4), .int (r3.2.1 5), .int (r3.2.1 6), .long r3.2.2.1])), (a 1, .inl (eJ E, 68, .inr (.inl r3.2.2.2.1))), (a 2, .inl (eJ E, 68, .inr (.inl r3.2.2.2.2.1))), (a 3, .inl (eJ E, 340, .inr (.inl r3.2.2.2.2.2.1))), (a 4, .inl (eI E, 3, .inl r3.2.2.2.2.2.2.1)), (a 5, .inl (eI E, 120, .inl r3.2.2.2.2.2.2.2.1)), (a 6, .inl (eI E, 60, .inl r3.2.2.2.2.2.2.2.2.1)), (a 7, .inl (eI E, 120, .inl r3.2.2.2.2.2.2.2.2.2))]) (pre := []) (post := []) (As := [.int r2.1]) (rest := []) (q0 := 0) ⟨hx, hb, hml, hown, hts⟩ hr3 (cwV 1 hts gX6_holds_X6_finished rfl rfl rfl qvX6_finished ⟨Nat.le_of_ble_eq_true rfl, Nat.le_of_ble_eq_true rfl⟩) hK hP hD hS hA rfl rfl rfl rfl rfl hl.1 rfl (Nat.le_of_ble_eq_true rfl) dX6_holds_11 ⟨Nat.zero_le _, Nat.zero_le _⟩ (fun H locs hP hD hS => ?_)
  have hfn : fX6_holds M lo up = r3 := by
    subst er3
    subst er2
    subst er1
    exact rfl
  rw [hfn] at hQ
  exact hQ _ _ _ _ _ rfl hP hD hS dX6_holds_14

def fX6_offset (M : Mdl) (n : Int32) : Int32 × (Mdl) :=
  let r1 : Mdl := fX6_laysAside M
  let r2 : Int32 × (Mdl) := fX6_putSetting r1 11 n 9
  let r3 : Int32 × (Mdl) := fX6_finished r2.2 r2.1
  r3
abbrev rX6_offset : Room := { frames := 2, cells := 0, slots := 0, locals := 49 }
theorem qvX6_offset : yX6_offset.cls = RX6 ∧ yX6_offset.cls ≠ "java/lang/invoke/MethodHandle" ∧ yX6_offset.cls ≠ "java/lang/invoke/VarHandle" ∧ (parseMethodDescriptor yX6_offset.desc).map (fun d => d.parameters.length) = some 1 := by decide +kernel
set_option maxHeartbeats 4000000 in
set_option maxRecDepth 100000 in
theorem kX6_offset (l : Launch) (E : gEnv) (a : Nat → Nat) (M : Mdl) (n : Int32) (hn : 0 ≤ ((fX6_putSetting (fX6_laysAside M) 11 n 9).2.1 0).toInt ∧ ((fX6_putSetting (fX6_laysAside M) 11 n 9).2.1 0).toInt ≤ 5) (hv : ¬ (-10000002) < (fX6_putSetting (fX6_laysAside M) 11 n 9).1 → vp_in ((-10000002) - (fX6_putSetting (fX6_laysAside M) 11 n 9).1) 3) : gMi l E yX6_offset wsX6_offset rX6_offset [.ref (a 0), .int n] (wM E a M) (fX6_offset M n).1 (wM E a ((fX6_offset M n).2)) := by
  refine gMi_of (cc := cX6_offset) (maxL := 2) (ret := (some .int)) (by decide) rfl rfl (Nat.le_of_ble_eq_true rfl) ?_
  intro p e s m args below meth c A Q ls hB hQ
  obtain ⟨hx, hb, hml, hown, hts, hK, hP, hD, hA, hS, hl⟩ := hB
  have hown : s.vm.findClass RX6 = some m.cls := hown
  have hP : va_P E.1 vwCl [(a 0, .inr (6, [.ref (a 1), .ref (a 2), .ref (a 3), .int (M.1 0), .ref (a 4), .ref (a 5), .int (M.1 1), .int (M.1 2), .int (M.1 3), .ref (a 6), .ref (a 7), .int (M.1 4), .int (M.1 5), .int (M.1 6), .long M.2.1])), (a 1, .inl (eJ E, 68, .inr (.inl M.2.2.1))), (a 2, .inl (eJ E, 68, .inr (.inl M.2.2.2.1))), (a 3, .inl (eJ E, 340, .inr (.inl M.2.2.2.2.1))), (a 4, .inl (eI E, 3, .inl M.2.2.2.2.2.1)), (a 5, .inl (eI E, 120, .inl M.2.2.2.2.2.2.1)), (a 6, .inl (eI E, 60, .inl M.2.2.2.2.2.2.2.1)), (a 7, .inl (eI E, 120, .inl M.2.2.2.2.2.2.2.2))] s.heap := hP
  have hD : va_D A [(a 0, .inr (6, [.ref (a 1), .ref (a 2), .ref (a 3), .int (M.1 0), .ref (a 4), .ref (a 5), .int (M.1 1), .int (M.1 2), .int (M.1 3), .ref (a 6), .ref (a 7), .int (M.1 4), .int (M.1 5), .int (M.1 6), .long M.2.1])), (a 1, .inl (eJ E, 68, .inr (.inl M.2.2.1))), (a 2, .inl (eJ E, 68, .inr (.inl M.2.2.2.1))), (a 3, .inl (eJ E, 340, .inr (.inl M.2.2.2.2.1))), (a 4, .inl (eI E, 3, .inl M.2.2.2.2.2.1)), (a 5, .inl (eI E, 120, .inl M.2.2.2.2.2.2.1)), (a 6, .inl (eI E, 60, .inl M.2.2.2.2.2.2.2.1)), (a 7, .inl (eI E, 120, .inl M.2.2.2.2.2.2.2.2))] := hD
  have hl : lv_has ls 2 [(0, .ref (a 0)), (1, .int n)] := hl
  refine lv_aload_n (pc := 0) hx hb dX6_offset_0 rfl (lv_at hl 0 rfl) ?_
  obtain ⟨r1, er1⟩ : ∃ z : Mdl, fX6_laysAside M = z := ⟨_, rfl⟩
  have hr1 := kX6_laysAside l E a M
  rw [er1] at hr1
  refine gcVv (pc := 1) (w1 := [(a 0, .inr (6, [.ref (a 1), .ref (a 2), .ref (a 3), .int (r1.1 0), .ref (a 4), .ref (a 5), .int (r1.1 1), .int (r1.1 2), .int (r1.1 3), .ref (a 6), .ref (a 7), .int (r1.1 4), .int (r1.1 5), .int (r1.1 6), .long r1.2.1])), (a 1, .inl (eJ E, 68, .inr (.inl r1.2.2.1))), (a 2, .inl (eJ E, 68, .inr (.inl r1.2.2.2.1))), (a 3, .inl (eJ E, 340, .inr (.inl r1.2.2.2.2.1))), (a 4, .inl (eI E, 3, .inl r1.2.2.2.2.2.1)), (a 5, .inl (eI E, 120, .inl r1.2.2.2.2.2.2.1)), (a 6, .inl (eI E, 60, .inl r1.2.2.2.2.2.2.2.1)), (a 7, .inl (eI E, 120, .inl r1.2.2.2.2.2.2.2.2))]) (pre := []) (post := []) (As := []) (rest := []) (q0 := 0) ⟨hx, hb, hml, hown, hts⟩ hr1 (cwV 0 hts gX6_offset_X6_laysAside rfl rfl rfl qvX6_laysAside ⟨Nat.le_of_ble_eq_true rfl, Nat.le_of_ble_eq_true rfl⟩) hK hP hD hS hA rfl rfl rfl rfl rfl hl.1 rfl (Nat.le_of_ble_eq_true rfl) dX6_offset_1 ⟨Nat.zero_le _, Nat.zero_le _⟩ (fun H locs hP hD hS => ?_)
  refine lv_aload_n (pc := 4) hx hb dX6_offset_4 rfl (lv_at hl 0 rfl) ?_
  refine lv_aload_n (pc := 5) hx hb dX6_offset_5 rfl (lv_at hl 0 rfl) ?_
  refine lv_bipush (v := 11) (pc := 6) hx hb dX6_offset_6 rfl ?_
  refine lv_iload_n (pc := 8) hx hb dX6_offset_8 rfl (lv_at hl 1 rfl) ?_
  refine lv_bipush (v := 9) (pc := 9) hx hb dX6_offset_9 rfl ?_
  obtain ⟨r2, er2⟩ : ∃ z : Int32 × (Mdl), fX6_putSetting r1 11 n 9 = z := ⟨_, rfl⟩
  have hr2 := kX6_putSetting l E a r1 11 n 9 (g_in (by decide +kernel))
  rw [er2] at hr2
  refine gcVi (pc := 11) (w1 := [(a 0, .inr (6, [.ref (a 1), .ref (a 2), .ref (a 3), .int (r2.2.1 0), .ref (a 4), .ref (a 5), .int (r2.2.1 1), .int (r2.2.1 2), .int (r2.2.1 3), .ref (a 6), .ref (a 7), .int (r2.2.1 4), .int (r2.2.1 5), .int (r2.2.1 6), .long r2.2.2.1])), (a 1, .inl (eJ E, 68, .inr (.inl r2.2.2.2.1))), (a 2, .inl (eJ E, 68, .inr (.inl r2.2.2.2.2.1))), (a 3, .inl (eJ E, 340, .inr (.inl r2.2.2.2.2.2.1))), (a 4, .inl (eI E, 3, .inl r2.2.2.2.2.2.2.1)), (a 5, .inl (eI E, 120, .inl r2.2.2.2.2.2.2.2.1)), (a 6, .inl (eI E, 60, .inl r2.2.2.2.2.2.2.2.2.1)), (a 7, .inl (eI E, 120, .inl r2.2.2.2.2.2.2.2.2.2))]) (pre := []) (post := []) (As := [.int 11, .int n, .int 9]) (rest := [.ref (a 0)]) (q0 := 0) ⟨hx, hb, hml, hown, hts⟩ hr2 (cwV 3 hts gX6_offset_X6_putSetting rfl rfl rfl qvX6_putSetting ⟨Nat.le_of_ble_eq_true rfl, Nat.le_of_ble_eq_true rfl⟩) hK hP hD hS hA rfl rfl rfl rfl rfl hl.1 rfl (Nat.le_of_ble_eq_true rfl) dX6_offset_11 ⟨Nat.zero_le _, Nat.zero_le _⟩ (fun H locs hP hD hS => ?_)
  obtain ⟨r3, er3⟩ : ∃ z : Int32 × (Mdl), fX6_finished r2.2 r2.1 = z := ⟨_, rfl⟩
  have hr3 := kX6_finished l E a r2.2 r2.1 (by subst er2; subst er1; exact hn) (by subst er2; subst er1; exact hv)
  rw [er3] at hr3
  refine gcVi (pc := 14) (w1 := [(a 0, .inr (6, [.ref (a 1), .ref (a 2), .ref (a 3), .int (r3.2.1 0), .ref (a 4), .ref (a 5), .int (r3.2.1 1), .int (r3.2.1 2), .int (r3.2.1 3), .ref (a 6), .ref (a 7), .int (r3.2.1 4), .int (r3.2.1 5), .int (r3.2.1 6), .long r3.2.2.1])), (a 1, .inl (eJ E, 68, .inr (.inl r3.2.2.2.1))), (a 2, .inl (eJ E, 68, .inr (.inl r3.2.2.2.2.1))), (a 3, .inl (eJ E, 340, .inr (.inl r3.2.2.2.2.2.1))), (a 4, .inl (eI E, 3, .inl r3.2.2.2.2.2.2.1)), (a 5, .inl (eI E, 120, .inl r3.2.2.2.2.2.2.2.1)), (a 6, .inl (eI E, 60, .inl r3.2.2.2.2.2.2.2.2.1)), (a 7, .inl (eI E, 120, .inl r3.2.2.2.2.2.2.2.2.2))]) (pre := []) (post := []) (As := [.int r2.1]) (rest := []) (q0 := 0) ⟨hx, hb, hml, hown, hts⟩ hr3 (cwV 1 hts gX6_offset_X6_finished rfl rfl rfl qvX6_finished ⟨Nat.le_of_ble_eq_true rfl, Nat.le_of_ble_eq_true rfl⟩) hK hP hD hS hA rfl rfl rfl rfl rfl hl.1 rfl (Nat.le_of_ble_eq_true rfl) dX6_offset_14 ⟨Nat.zero_le _, Nat.zero_le _⟩ (fun H locs hP hD hS => ?_)
  have hfn : fX6_offset M n = r3 := by
    subst er3
    subst er2
    subst er1
    exact rfl
  rw [hfn] at hQ
  exact hQ _ _ _ _ _ rfl hP hD hS dX6_offset_17

def fX6_clings (M : Mdl) (n : Int32) : Int32 × (Mdl) :=
  let r1 : Mdl := fX6_laysAside M
  let r2 : Int32 × (Mdl) := fX6_putSetting r1 12 n 500
  let r3 : Int32 × (Mdl) := fX6_finished r2.2 r2.1
  r3
abbrev rX6_clings : Room := { frames := 2, cells := 0, slots := 0, locals := 49 }
theorem qvX6_clings : yX6_clings.cls = RX6 ∧ yX6_clings.cls ≠ "java/lang/invoke/MethodHandle" ∧ yX6_clings.cls ≠ "java/lang/invoke/VarHandle" ∧ (parseMethodDescriptor yX6_clings.desc).map (fun d => d.parameters.length) = some 1 := by decide +kernel
set_option maxHeartbeats 4000000 in
set_option maxRecDepth 100000 in
theorem kX6_clings (l : Launch) (E : gEnv) (a : Nat → Nat) (M : Mdl) (n : Int32) (hn : 0 ≤ ((fX6_putSetting (fX6_laysAside M) 12 n 500).2.1 0).toInt ∧ ((fX6_putSetting (fX6_laysAside M) 12 n 500).2.1 0).toInt ≤ 5) (hv : ¬ (-10000002) < (fX6_putSetting (fX6_laysAside M) 12 n 500).1 → vp_in ((-10000002) - (fX6_putSetting (fX6_laysAside M) 12 n 500).1) 3) : gMi l E yX6_clings wsX6_clings rX6_clings [.ref (a 0), .int n] (wM E a M) (fX6_clings M n).1 (wM E a ((fX6_clings M n).2)) := by
  refine gMi_of (cc := cX6_clings) (maxL := 2) (ret := (some .int)) (by decide) rfl rfl (Nat.le_of_ble_eq_true rfl) ?_
  intro p e s m args below meth c A Q ls hB hQ
  obtain ⟨hx, hb, hml, hown, hts, hK, hP, hD, hA, hS, hl⟩ := hB
  have hown : s.vm.findClass RX6 = some m.cls := hown
  have hP : va_P E.1 vwCl [(a 0, .inr (6, [.ref (a 1), .ref (a 2), .ref (a 3), .int (M.1 0), .ref (a 4), .ref (a 5), .int (M.1 1), .int (M.1 2), .int (M.1 3), .ref (a 6), .ref (a 7), .int (M.1 4), .int (M.1 5), .int (M.1 6), .long M.2.1])), (a 1, .inl (eJ E, 68, .inr (.inl M.2.2.1))), (a 2, .inl (eJ E, 68, .inr (.inl M.2.2.2.1))), (a 3, .inl (eJ E, 340, .inr (.inl M.2.2.2.2.1))), (a 4, .inl (eI E, 3, .inl M.2.2.2.2.2.1)), (a 5, .inl (eI E, 120, .inl M.2.2.2.2.2.2.1)), (a 6, .inl (eI E, 60, .inl M.2.2.2.2.2.2.2.1)), (a 7, .inl (eI E, 120, .inl M.2.2.2.2.2.2.2.2))] s.heap := hP
  have hD : va_D A [(a 0, .inr (6, [.ref (a 1), .ref (a 2), .ref (a 3), .int (M.1 0), .ref (a 4), .ref (a 5), .int (M.1 1), .int (M.1 2), .int (M.1 3), .ref (a 6), .ref (a 7), .int (M.1 4), .int (M.1 5), .int (M.1 6), .long M.2.1])), (a 1, .inl (eJ E, 68, .inr (.inl M.2.2.1))), (a 2, .inl (eJ E, 68, .inr (.inl M.2.2.2.1))), (a 3, .inl (eJ E, 340, .inr (.inl M.2.2.2.2.1))), (a 4, .inl (eI E, 3, .inl M.2.2.2.2.2.1)), (a 5, .inl (eI E, 120, .inl M.2.2.2.2.2.2.1)), (a 6, .inl (eI E, 60, .inl M.2.2.2.2.2.2.2.1)), (a 7, .inl (eI E, 120, .inl M.2.2.2.2.2.2.2.2))] := hD
  have hl : lv_has ls 2 [(0, .ref (a 0)), (1, .int n)] := hl
  refine lv_aload_n (pc := 0) hx hb dX6_clings_0 rfl (lv_at hl 0 rfl) ?_
  obtain ⟨r1, er1⟩ : ∃ z : Mdl, fX6_laysAside M = z := ⟨_, rfl⟩
  have hr1 := kX6_laysAside l E a M
  rw [er1] at hr1
  refine gcVv (pc := 1) (w1 := [(a 0, .inr (6, [.ref (a 1), .ref (a 2), .ref (a 3), .int (r1.1 0), .ref (a 4), .ref (a 5), .int (r1.1 1), .int (r1.1 2), .int (r1.1 3), .ref (a 6), .ref (a 7), .int (r1.1 4), .int (r1.1 5), .int (r1.1 6), .long r1.2.1])), (a 1, .inl (eJ E, 68, .inr (.inl r1.2.2.1))), (a 2, .inl (eJ E, 68, .inr (.inl r1.2.2.2.1))), (a 3, .inl (eJ E, 340, .inr (.inl r1.2.2.2.2.1))), (a 4, .inl (eI E, 3, .inl r1.2.2.2.2.2.1)), (a 5, .inl (eI E, 120, .inl r1.2.2.2.2.2.2.1)), (a 6, .inl (eI E, 60, .inl r1.2.2.2.2.2.2.2.1)), (a 7, .inl (eI E, 120, .inl r1.2.2.2.2.2.2.2.2))]) (pre := []) (post := []) (As := []) (rest := []) (q0 := 0) ⟨hx, hb, hml, hown, hts⟩ hr1 (cwV 0 hts gX6_clings_X6_laysAside rfl rfl rfl qvX6_laysAside ⟨Nat.le_of_ble_eq_true rfl, Nat.le_of_ble_eq_true rfl⟩) hK hP hD hS hA rfl rfl rfl rfl rfl hl.1 rfl (Nat.le_of_ble_eq_true rfl) dX6_clings_1 ⟨Nat.zero_le _, Nat.zero_le _⟩ (fun H locs hP hD hS => ?_)
  refine lv_aload_n (pc := 4) hx hb dX6_clings_4 rfl (lv_at hl 0 rfl) ?_
  refine lv_aload_n (pc := 5) hx hb dX6_clings_5 rfl (lv_at hl 0 rfl) ?_
  refine lv_bipush (v := 12) (pc := 6) hx hb dX6_clings_6 rfl ?_
  refine lv_iload_n (pc := 8) hx hb dX6_clings_8 rfl (lv_at hl 1 rfl) ?_
  refine lv_sipush (v := 500) (pc := 9) hx hb dX6_clings_9 rfl ?_
  obtain ⟨r2, er2⟩ : ∃ z : Int32 × (Mdl), fX6_putSetting r1 12 n 500 = z := ⟨_, rfl⟩
  have hr2 := kX6_putSetting l E a r1 12 n 500 (g_in (by decide +kernel))
  rw [er2] at hr2
  refine gcVi (pc := 12) (w1 := [(a 0, .inr (6, [.ref (a 1), .ref (a 2), .ref (a 3), .int (r2.2.1 0), .ref (a 4), .ref (a 5), .int (r2.2.1 1), .int (r2.2.1 2), .int (r2.2.1 3), .ref (a 6), .ref (a 7), .int (r2.2.1 4), .int (r2.2.1 5), .int (r2.2.1 6), .long r2.2.2.1])), (a 1, .inl (eJ E, 68, .inr (.inl r2.2.2.2.1))), (a 2, .inl (eJ E, 68, .inr (.inl r2.2.2.2.2.1))), (a 3, .inl (eJ E, 340, .inr (.inl r2.2.2.2.2.2.1))), (a 4, .inl (eI E, 3, .inl r2.2.2.2.2.2.2.1)), (a 5, .inl (eI E, 120, .inl r2.2.2.2.2.2.2.2.1)), (a 6, .inl (eI E, 60, .inl r2.2.2.2.2.2.2.2.2.1)), (a 7, .inl (eI E, 120, .inl r2.2.2.2.2.2.2.2.2.2))]) (pre := []) (post := []) (As := [.int 12, .int n, .int 500]) (rest := [.ref (a 0)]) (q0 := 0) ⟨hx, hb, hml, hown, hts⟩ hr2 (cwV 3 hts gX6_clings_X6_putSetting rfl rfl rfl qvX6_putSetting ⟨Nat.le_of_ble_eq_true rfl, Nat.le_of_ble_eq_true rfl⟩) hK hP hD hS hA rfl rfl rfl rfl rfl hl.1 rfl (Nat.le_of_ble_eq_true rfl) dX6_clings_12 ⟨Nat.zero_le _, Nat.zero_le _⟩ (fun H locs hP hD hS => ?_)
  obtain ⟨r3, er3⟩ : ∃ z : Int32 × (Mdl), fX6_finished r2.2 r2.1 = z := ⟨_, rfl⟩
  have hr3 := kX6_finished l E a r2.2 r2.1 (by subst er2; subst er1; exact hn) (by subst er2; subst er1; exact hv)
  rw [er3] at hr3
  refine gcVi (pc := 15) (w1 := [(a 0, .inr (6, [.ref (a 1), .ref (a 2), .ref (a 3), .int (r3.2.1 0), .ref (a 4), .ref (a 5), .int (r3.2.1 1), .int (r3.2.1 2), .int (r3.2.1 3), .ref (a 6), .ref (a 7), .int (r3.2.1 4), .int (r3.2.1 5), .int (r3.2.1 6), .long r3.2.2.1])), (a 1, .inl (eJ E, 68, .inr (.inl r3.2.2.2.1))), (a 2, .inl (eJ E, 68, .inr (.inl r3.2.2.2.2.1))), (a 3, .inl (eJ E, 340, .inr (.inl r3.2.2.2.2.2.1))), (a 4, .inl (eI E, 3, .inl r3.2.2.2.2.2.2.1)), (a 5, .inl (eI E, 120, .inl r3.2.2.2.2.2.2.2.1)), (a 6, .inl (eI E, 60, .inl r3.2.2.2.2.2.2.2.2.1)), (a 7, .inl (eI E, 120, .inl r3.2.2.2.2.2.2.2.2.2))]) (pre := []) (post := []) (As := [.int r2.1]) (rest := []) (q0 := 0) ⟨hx, hb, hml, hown, hts⟩ hr3 (cwV 1 hts gX6_clings_X6_finished rfl rfl rfl qvX6_finished ⟨Nat.le_of_ble_eq_true rfl, Nat.le_of_ble_eq_true rfl⟩) hK hP hD hS hA rfl rfl rfl rfl rfl hl.1 rfl (Nat.le_of_ble_eq_true rfl) dX6_clings_15 ⟨Nat.zero_le _, Nat.zero_le _⟩ (fun H locs hP hD hS => ?_)
  have hfn : fX6_clings M n = r3 := by
    subst er3
    subst er2
    subst er1
    exact rfl
  rw [hfn] at hQ
  exact hQ _ _ _ _ _ rfl hP hD hS dX6_clings_18

def fX6_curve (M : Mdl) (k : Int32) (v : Int32) : Int32 × (Mdl) :=
  let r1 : Mdl := fX6_laysAside M
  let r2 : Int32 × (Mdl) := fX6_putPoint r1 k v
  let r3 : Int32 × (Mdl) := fX6_finished r2.2 r2.1
  r3
abbrev rX6_curve : Room := { frames := 2, cells := 0, slots := 0, locals := 48 }
theorem qvX6_curve : yX6_curve.cls = RX6 ∧ yX6_curve.cls ≠ "java/lang/invoke/MethodHandle" ∧ yX6_curve.cls ≠ "java/lang/invoke/VarHandle" ∧ (parseMethodDescriptor yX6_curve.desc).map (fun d => d.parameters.length) = some 2 := by decide +kernel
set_option maxHeartbeats 4000000 in
set_option maxRecDepth 100000 in
theorem kX6_curve (l : Launch) (E : gEnv) (a : Nat → Nat) (M : Mdl) (k : Int32) (v : Int32) (hn : 0 ≤ ((fX6_putPoint (fX6_laysAside M) k v).2.1 0).toInt ∧ ((fX6_putPoint (fX6_laysAside M) k v).2.1 0).toInt ≤ 5) (hv : ¬ (-10000002) < (fX6_putPoint (fX6_laysAside M) k v).1 → vp_in ((-10000002) - (fX6_putPoint (fX6_laysAside M) k v).1) 3) : gMi l E yX6_curve wsX6_curve rX6_curve [.ref (a 0), .int k, .int v] (wM E a M) (fX6_curve M k v).1 (wM E a ((fX6_curve M k v).2)) := by
  refine gMi_of (cc := cX6_curve) (maxL := 3) (ret := (some .int)) (by decide) rfl rfl (Nat.le_of_ble_eq_true rfl) ?_
  intro p e s m args below meth c A Q ls hB hQ
  obtain ⟨hx, hb, hml, hown, hts, hK, hP, hD, hA, hS, hl⟩ := hB
  have hown : s.vm.findClass RX6 = some m.cls := hown
  have hP : va_P E.1 vwCl [(a 0, .inr (6, [.ref (a 1), .ref (a 2), .ref (a 3), .int (M.1 0), .ref (a 4), .ref (a 5), .int (M.1 1), .int (M.1 2), .int (M.1 3), .ref (a 6), .ref (a 7), .int (M.1 4), .int (M.1 5), .int (M.1 6), .long M.2.1])), (a 1, .inl (eJ E, 68, .inr (.inl M.2.2.1))), (a 2, .inl (eJ E, 68, .inr (.inl M.2.2.2.1))), (a 3, .inl (eJ E, 340, .inr (.inl M.2.2.2.2.1))), (a 4, .inl (eI E, 3, .inl M.2.2.2.2.2.1)), (a 5, .inl (eI E, 120, .inl M.2.2.2.2.2.2.1)), (a 6, .inl (eI E, 60, .inl M.2.2.2.2.2.2.2.1)), (a 7, .inl (eI E, 120, .inl M.2.2.2.2.2.2.2.2))] s.heap := hP
  have hD : va_D A [(a 0, .inr (6, [.ref (a 1), .ref (a 2), .ref (a 3), .int (M.1 0), .ref (a 4), .ref (a 5), .int (M.1 1), .int (M.1 2), .int (M.1 3), .ref (a 6), .ref (a 7), .int (M.1 4), .int (M.1 5), .int (M.1 6), .long M.2.1])), (a 1, .inl (eJ E, 68, .inr (.inl M.2.2.1))), (a 2, .inl (eJ E, 68, .inr (.inl M.2.2.2.1))), (a 3, .inl (eJ E, 340, .inr (.inl M.2.2.2.2.1))), (a 4, .inl (eI E, 3, .inl M.2.2.2.2.2.1)), (a 5, .inl (eI E, 120, .inl M.2.2.2.2.2.2.1)), (a 6, .inl (eI E, 60, .inl M.2.2.2.2.2.2.2.1)), (a 7, .inl (eI E, 120, .inl M.2.2.2.2.2.2.2.2))] := hD
  have hl : lv_has ls 3 [(0, .ref (a 0)), (1, .int k), (2, .int v)] := hl
  refine lv_aload_n (pc := 0) hx hb dX6_curve_0 rfl (lv_at hl 0 rfl) ?_
  obtain ⟨r1, er1⟩ : ∃ z : Mdl, fX6_laysAside M = z := ⟨_, rfl⟩
  have hr1 := kX6_laysAside l E a M
  rw [er1] at hr1
  refine gcVv (pc := 1) (w1 := [(a 0, .inr (6, [.ref (a 1), .ref (a 2), .ref (a 3), .int (r1.1 0), .ref (a 4), .ref (a 5), .int (r1.1 1), .int (r1.1 2), .int (r1.1 3), .ref (a 6), .ref (a 7), .int (r1.1 4), .int (r1.1 5), .int (r1.1 6), .long r1.2.1])), (a 1, .inl (eJ E, 68, .inr (.inl r1.2.2.1))), (a 2, .inl (eJ E, 68, .inr (.inl r1.2.2.2.1))), (a 3, .inl (eJ E, 340, .inr (.inl r1.2.2.2.2.1))), (a 4, .inl (eI E, 3, .inl r1.2.2.2.2.2.1)), (a 5, .inl (eI E, 120, .inl r1.2.2.2.2.2.2.1)), (a 6, .inl (eI E, 60, .inl r1.2.2.2.2.2.2.2.1)), (a 7, .inl (eI E, 120, .inl r1.2.2.2.2.2.2.2.2))]) (pre := []) (post := []) (As := []) (rest := []) (q0 := 0) ⟨hx, hb, hml, hown, hts⟩ hr1 (cwV 0 hts gX6_curve_X6_laysAside rfl rfl rfl qvX6_laysAside ⟨Nat.le_of_ble_eq_true rfl, Nat.le_of_ble_eq_true rfl⟩) hK hP hD hS hA rfl rfl rfl rfl rfl hl.1 rfl (Nat.le_of_ble_eq_true rfl) dX6_curve_1 ⟨Nat.zero_le _, Nat.zero_le _⟩ (fun H locs hP hD hS => ?_)
  refine lv_aload_n (pc := 4) hx hb dX6_curve_4 rfl (lv_at hl 0 rfl) ?_
  refine lv_aload_n (pc := 5) hx hb dX6_curve_5 rfl (lv_at hl 0 rfl) ?_
  refine lv_iload_n (pc := 6) hx hb dX6_curve_6 rfl (lv_at hl 1 rfl) ?_
  refine lv_iload_n (pc := 7) hx hb dX6_curve_7 rfl (lv_at hl 2 rfl) ?_
  obtain ⟨r2, er2⟩ : ∃ z : Int32 × (Mdl), fX6_putPoint r1 k v = z := ⟨_, rfl⟩
  have hr2 := kX6_putPoint l E a r1 k v
  rw [er2] at hr2
  refine gcVi (pc := 8) (w1 := [(a 0, .inr (6, [.ref (a 1), .ref (a 2), .ref (a 3), .int (r2.2.1 0), .ref (a 4), .ref (a 5), .int (r2.2.1 1), .int (r2.2.1 2), .int (r2.2.1 3), .ref (a 6), .ref (a 7), .int (r2.2.1 4), .int (r2.2.1 5), .int (r2.2.1 6), .long r2.2.2.1])), (a 1, .inl (eJ E, 68, .inr (.inl r2.2.2.2.1))), (a 2, .inl (eJ E, 68, .inr (.inl r2.2.2.2.2.1))), (a 3, .inl (eJ E, 340, .inr (.inl r2.2.2.2.2.2.1))), (a 4, .inl (eI E, 3, .inl r2.2.2.2.2.2.2.1)), (a 5, .inl (eI E, 120, .inl r2.2.2.2.2.2.2.2.1)), (a 6, .inl (eI E, 60, .inl r2.2.2.2.2.2.2.2.2.1)), (a 7, .inl (eI E, 120, .inl r2.2.2.2.2.2.2.2.2.2))]) (pre := []) (post := []) (As := [.int k, .int v]) (rest := [.ref (a 0)]) (q0 := 0) ⟨hx, hb, hml, hown, hts⟩ hr2 (cwV 2 hts gX6_curve_X6_putPoint rfl rfl rfl qvX6_putPoint ⟨Nat.le_of_ble_eq_true rfl, Nat.le_of_ble_eq_true rfl⟩) hK hP hD hS hA rfl rfl rfl rfl rfl hl.1 rfl (Nat.le_of_ble_eq_true rfl) dX6_curve_8 ⟨Nat.zero_le _, Nat.zero_le _⟩ (fun H locs hP hD hS => ?_)
  obtain ⟨r3, er3⟩ : ∃ z : Int32 × (Mdl), fX6_finished r2.2 r2.1 = z := ⟨_, rfl⟩
  have hr3 := kX6_finished l E a r2.2 r2.1 (by subst er2; subst er1; exact hn) (by subst er2; subst er1; exact hv)
  rw [er3] at hr3
  refine gcVi (pc := 11) (w1 := [(a 0, .inr (6, [.ref (a 1), .ref (a 2), .ref (a 3), .int (r3.2.1 0), .ref (a 4), .ref (a 5), .int (r3.2.1 1), .int (r3.2.1 2), .int (r3.2.1 3), .ref (a 6), .ref (a 7), .int (r3.2.1 4), .int (r3.2.1 5), .int (r3.2.1 6), .long r3.2.2.1])), (a 1, .inl (eJ E, 68, .inr (.inl r3.2.2.2.1))), (a 2, .inl (eJ E, 68, .inr (.inl r3.2.2.2.2.1))), (a 3, .inl (eJ E, 340, .inr (.inl r3.2.2.2.2.2.1))), (a 4, .inl (eI E, 3, .inl r3.2.2.2.2.2.2.1)), (a 5, .inl (eI E, 120, .inl r3.2.2.2.2.2.2.2.1)), (a 6, .inl (eI E, 60, .inl r3.2.2.2.2.2.2.2.2.1)), (a 7, .inl (eI E, 120, .inl r3.2.2.2.2.2.2.2.2.2))]) (pre := []) (post := []) (As := [.int r2.1]) (rest := []) (q0 := 0) ⟨hx, hb, hml, hown, hts⟩ hr3 (cwV 1 hts gX6_curve_X6_finished rfl rfl rfl qvX6_finished ⟨Nat.le_of_ble_eq_true rfl, Nat.le_of_ble_eq_true rfl⟩) hK hP hD hS hA rfl rfl rfl rfl rfl hl.1 rfl (Nat.le_of_ble_eq_true rfl) dX6_curve_11 ⟨Nat.zero_le _, Nat.zero_le _⟩ (fun H locs hP hD hS => ?_)
  have hfn : fX6_curve M k v = r3 := by
    subst er3
    subst er2
    subst er1
    exact rfl
  rw [hfn] at hQ
  exact hQ _ _ _ _ _ rfl hP hD hS dX6_curve_14

def fX6_passes (M : Mdl) (i : Int32) (n : Int32) : Int32 × (Mdl) :=
  let r1 : Mdl := fX6_laysAside M
  let r2 : Int32 × (Mdl) := fX6_putPassing r1 i n
  let r3 : Int32 × (Mdl) := fX6_finished r2.2 r2.1
  r3
abbrev rX6_passes : Room := { frames := 3, cells := 0, slots := 0, locals := 80 }
theorem qvX6_passes : yX6_passes.cls = RX6 ∧ yX6_passes.cls ≠ "java/lang/invoke/MethodHandle" ∧ yX6_passes.cls ≠ "java/lang/invoke/VarHandle" ∧ (parseMethodDescriptor yX6_passes.desc).map (fun d => d.parameters.length) = some 2 := by decide +kernel
set_option maxHeartbeats 4000000 in
set_option maxRecDepth 100000 in
theorem kX6_passes (l : Launch) (E : gEnv) (a : Nat → Nat) (M : Mdl) (i : Int32) (n : Int32) (hn : 0 ≤ ((fX6_putPassing (fX6_laysAside M) i n).2.1 0).toInt ∧ ((fX6_putPassing (fX6_laysAside M) i n).2.1 0).toInt ≤ 5) (hv : ¬ (-10000002) < (fX6_putPassing (fX6_laysAside M) i n).1 → vp_in ((-10000002) - (fX6_putPassing (fX6_laysAside M) i n).1) 3) : gMi l E yX6_passes wsX6_passes rX6_passes [.ref (a 0), .int i, .int n] (wM E a M) (fX6_passes M i n).1 (wM E a ((fX6_passes M i n).2)) := by
  refine gMi_of (cc := cX6_passes) (maxL := 3) (ret := (some .int)) (by decide) rfl rfl (Nat.le_of_ble_eq_true rfl) ?_
  intro p e s m args below meth c A Q ls hB hQ
  obtain ⟨hx, hb, hml, hown, hts, hK, hP, hD, hA, hS, hl⟩ := hB
  have hown : s.vm.findClass RX6 = some m.cls := hown
  have hP : va_P E.1 vwCl [(a 0, .inr (6, [.ref (a 1), .ref (a 2), .ref (a 3), .int (M.1 0), .ref (a 4), .ref (a 5), .int (M.1 1), .int (M.1 2), .int (M.1 3), .ref (a 6), .ref (a 7), .int (M.1 4), .int (M.1 5), .int (M.1 6), .long M.2.1])), (a 1, .inl (eJ E, 68, .inr (.inl M.2.2.1))), (a 2, .inl (eJ E, 68, .inr (.inl M.2.2.2.1))), (a 3, .inl (eJ E, 340, .inr (.inl M.2.2.2.2.1))), (a 4, .inl (eI E, 3, .inl M.2.2.2.2.2.1)), (a 5, .inl (eI E, 120, .inl M.2.2.2.2.2.2.1)), (a 6, .inl (eI E, 60, .inl M.2.2.2.2.2.2.2.1)), (a 7, .inl (eI E, 120, .inl M.2.2.2.2.2.2.2.2))] s.heap := hP
  have hD : va_D A [(a 0, .inr (6, [.ref (a 1), .ref (a 2), .ref (a 3), .int (M.1 0), .ref (a 4), .ref (a 5), .int (M.1 1), .int (M.1 2), .int (M.1 3), .ref (a 6), .ref (a 7), .int (M.1 4), .int (M.1 5), .int (M.1 6), .long M.2.1])), (a 1, .inl (eJ E, 68, .inr (.inl M.2.2.1))), (a 2, .inl (eJ E, 68, .inr (.inl M.2.2.2.1))), (a 3, .inl (eJ E, 340, .inr (.inl M.2.2.2.2.1))), (a 4, .inl (eI E, 3, .inl M.2.2.2.2.2.1)), (a 5, .inl (eI E, 120, .inl M.2.2.2.2.2.2.1)), (a 6, .inl (eI E, 60, .inl M.2.2.2.2.2.2.2.1)), (a 7, .inl (eI E, 120, .inl M.2.2.2.2.2.2.2.2))] := hD
  have hl : lv_has ls 3 [(0, .ref (a 0)), (1, .int i), (2, .int n)] := hl
  refine lv_aload_n (pc := 0) hx hb dX6_passes_0 rfl (lv_at hl 0 rfl) ?_
  obtain ⟨r1, er1⟩ : ∃ z : Mdl, fX6_laysAside M = z := ⟨_, rfl⟩
  have hr1 := kX6_laysAside l E a M
  rw [er1] at hr1
  refine gcVv (pc := 1) (w1 := [(a 0, .inr (6, [.ref (a 1), .ref (a 2), .ref (a 3), .int (r1.1 0), .ref (a 4), .ref (a 5), .int (r1.1 1), .int (r1.1 2), .int (r1.1 3), .ref (a 6), .ref (a 7), .int (r1.1 4), .int (r1.1 5), .int (r1.1 6), .long r1.2.1])), (a 1, .inl (eJ E, 68, .inr (.inl r1.2.2.1))), (a 2, .inl (eJ E, 68, .inr (.inl r1.2.2.2.1))), (a 3, .inl (eJ E, 340, .inr (.inl r1.2.2.2.2.1))), (a 4, .inl (eI E, 3, .inl r1.2.2.2.2.2.1)), (a 5, .inl (eI E, 120, .inl r1.2.2.2.2.2.2.1)), (a 6, .inl (eI E, 60, .inl r1.2.2.2.2.2.2.2.1)), (a 7, .inl (eI E, 120, .inl r1.2.2.2.2.2.2.2.2))]) (pre := []) (post := []) (As := []) (rest := []) (q0 := 0) ⟨hx, hb, hml, hown, hts⟩ hr1 (cwV 0 hts gX6_passes_X6_laysAside rfl rfl rfl qvX6_laysAside ⟨Nat.le_of_ble_eq_true rfl, Nat.le_of_ble_eq_true rfl⟩) hK hP hD hS hA rfl rfl rfl rfl rfl hl.1 rfl (Nat.le_of_ble_eq_true rfl) dX6_passes_1 ⟨Nat.zero_le _, Nat.zero_le _⟩ (fun H locs hP hD hS => ?_)
  refine lv_aload_n (pc := 4) hx hb dX6_passes_4 rfl (lv_at hl 0 rfl) ?_
  refine lv_aload_n (pc := 5) hx hb dX6_passes_5 rfl (lv_at hl 0 rfl) ?_
  refine lv_iload_n (pc := 6) hx hb dX6_passes_6 rfl (lv_at hl 1 rfl) ?_
  refine lv_iload_n (pc := 7) hx hb dX6_passes_7 rfl (lv_at hl 2 rfl) ?_
  obtain ⟨r2, er2⟩ : ∃ z : Int32 × (Mdl), fX6_putPassing r1 i n = z := ⟨_, rfl⟩
  have hr2 := kX6_putPassing l E a r1 i n
  rw [er2] at hr2
  refine gcVi (pc := 8) (w1 := [(a 0, .inr (6, [.ref (a 1), .ref (a 2), .ref (a 3), .int (r2.2.1 0), .ref (a 4), .ref (a 5), .int (r2.2.1 1), .int (r2.2.1 2), .int (r2.2.1 3), .ref (a 6), .ref (a 7), .int (r2.2.1 4), .int (r2.2.1 5), .int (r2.2.1 6), .long r2.2.2.1])), (a 1, .inl (eJ E, 68, .inr (.inl r2.2.2.2.1))), (a 2, .inl (eJ E, 68, .inr (.inl r2.2.2.2.2.1))), (a 3, .inl (eJ E, 340, .inr (.inl r2.2.2.2.2.2.1))), (a 4, .inl (eI E, 3, .inl r2.2.2.2.2.2.2.1)), (a 5, .inl (eI E, 120, .inl r2.2.2.2.2.2.2.2.1)), (a 6, .inl (eI E, 60, .inl r2.2.2.2.2.2.2.2.2.1)), (a 7, .inl (eI E, 120, .inl r2.2.2.2.2.2.2.2.2.2))]) (pre := []) (post := []) (As := [.int i, .int n]) (rest := [.ref (a 0)]) (q0 := 0) ⟨hx, hb, hml, hown, hts⟩ hr2 (cwV 2 hts gX6_passes_X6_putPassing rfl rfl rfl qvX6_putPassing ⟨Nat.le_of_ble_eq_true rfl, Nat.le_of_ble_eq_true rfl⟩) hK hP hD hS hA rfl rfl rfl rfl rfl hl.1 rfl (Nat.le_of_ble_eq_true rfl) dX6_passes_8 ⟨Nat.zero_le _, Nat.zero_le _⟩ (fun H locs hP hD hS => ?_)
  obtain ⟨r3, er3⟩ : ∃ z : Int32 × (Mdl), fX6_finished r2.2 r2.1 = z := ⟨_, rfl⟩
  have hr3 := kX6_finished l E a r2.2 r2.1 (by subst er2; subst er1; exact hn) (by subst er2; subst er1; exact hv)
  rw [er3] at hr3
  refine gcVi (pc := 11) (w1 := [(a 0, .inr (6, [.ref (a 1), .ref (a 2), .ref (a 3), .int (r3.2.1 0), .ref (a 4), .ref (a 5), .int (r3.2.1 1), .int (r3.2.1 2), .int (r3.2.1 3), .ref (a 6), .ref (a 7), .int (r3.2.1 4), .int (r3.2.1 5), .int (r3.2.1 6), .long r3.2.2.1])), (a 1, .inl (eJ E, 68, .inr (.inl r3.2.2.2.1))), (a 2, .inl (eJ E, 68, .inr (.inl r3.2.2.2.2.1))), (a 3, .inl (eJ E, 340, .inr (.inl r3.2.2.2.2.2.1))), (a 4, .inl (eI E, 3, .inl r3.2.2.2.2.2.2.1)), (a 5, .inl (eI E, 120, .inl r3.2.2.2.2.2.2.2.1)), (a 6, .inl (eI E, 60, .inl r3.2.2.2.2.2.2.2.2.1)), (a 7, .inl (eI E, 120, .inl r3.2.2.2.2.2.2.2.2.2))]) (pre := []) (post := []) (As := [.int r2.1]) (rest := []) (q0 := 0) ⟨hx, hb, hml, hown, hts⟩ hr3 (cwV 1 hts gX6_passes_X6_finished rfl rfl rfl qvX6_finished ⟨Nat.le_of_ble_eq_true rfl, Nat.le_of_ble_eq_true rfl⟩) hK hP hD hS hA rfl rfl rfl rfl rfl hl.1 rfl (Nat.le_of_ble_eq_true rfl) dX6_passes_11 ⟨Nat.zero_le _, Nat.zero_le _⟩ (fun H locs hP hD hS => ?_)
  have hfn : fX6_passes M i n = r3 := by
    subst er3
    subst er2
    subst er1
    exact rfl
  rw [hfn] at hQ
  exact hQ _ _ _ _ _ rfl hP hD hS dX6_passes_14

noncomputable def fX6_rests (M : Mdl) (v : Int32) : Int32 × (Mdl) :=
  let r1 : Mdl := fX6_laysAside M
  let r2 : Int32 × (Mdl) := fX6_putRest r1 v
  let r3 : Int32 × (Mdl) := fX6_finished r2.2 r2.1
  r3
abbrev rX6_rests : Room := { frames := 3, cells := 0, slots := 0, locals := 73 }
theorem qvX6_rests : yX6_rests.cls = RX6 ∧ yX6_rests.cls ≠ "java/lang/invoke/MethodHandle" ∧ yX6_rests.cls ≠ "java/lang/invoke/VarHandle" ∧ (parseMethodDescriptor yX6_rests.desc).map (fun d => d.parameters.length) = some 1 := by decide +kernel
set_option maxHeartbeats 4000000 in
set_option maxRecDepth 100000 in
theorem kX6_rests (l : Launch) (E : gEnv) (a : Nat → Nat) (M : Mdl) (v : Int32) (hn : 0 ≤ ((fX6_putRest (fX6_laysAside M) v).2.1 0).toInt ∧ ((fX6_putRest (fX6_laysAside M) v).2.1 0).toInt ≤ 5) (hv : ¬ (-10000002) < (fX6_putRest (fX6_laysAside M) v).1 → vp_in ((-10000002) - (fX6_putRest (fX6_laysAside M) v).1) 3) : gMi l E yX6_rests wsX6_rests rX6_rests [.ref (a 0), .int v] (wM E a M) (fX6_rests M v).1 (wM E a ((fX6_rests M v).2)) := by
  refine gMi_of (cc := cX6_rests) (maxL := 2) (ret := (some .int)) (by decide) rfl rfl (Nat.le_of_ble_eq_true rfl) ?_
  intro p e s m args below meth c A Q ls hB hQ
  obtain ⟨hx, hb, hml, hown, hts, hK, hP, hD, hA, hS, hl⟩ := hB
  have hown : s.vm.findClass RX6 = some m.cls := hown
  have hP : va_P E.1 vwCl [(a 0, .inr (6, [.ref (a 1), .ref (a 2), .ref (a 3), .int (M.1 0), .ref (a 4), .ref (a 5), .int (M.1 1), .int (M.1 2), .int (M.1 3), .ref (a 6), .ref (a 7), .int (M.1 4), .int (M.1 5), .int (M.1 6), .long M.2.1])), (a 1, .inl (eJ E, 68, .inr (.inl M.2.2.1))), (a 2, .inl (eJ E, 68, .inr (.inl M.2.2.2.1))), (a 3, .inl (eJ E, 340, .inr (.inl M.2.2.2.2.1))), (a 4, .inl (eI E, 3, .inl M.2.2.2.2.2.1)), (a 5, .inl (eI E, 120, .inl M.2.2.2.2.2.2.1)), (a 6, .inl (eI E, 60, .inl M.2.2.2.2.2.2.2.1)), (a 7, .inl (eI E, 120, .inl M.2.2.2.2.2.2.2.2))] s.heap := hP
  have hD : va_D A [(a 0, .inr (6, [.ref (a 1), .ref (a 2), .ref (a 3), .int (M.1 0), .ref (a 4), .ref (a 5), .int (M.1 1), .int (M.1 2), .int (M.1 3), .ref (a 6), .ref (a 7), .int (M.1 4), .int (M.1 5), .int (M.1 6), .long M.2.1])), (a 1, .inl (eJ E, 68, .inr (.inl M.2.2.1))), (a 2, .inl (eJ E, 68, .inr (.inl M.2.2.2.1))), (a 3, .inl (eJ E, 340, .inr (.inl M.2.2.2.2.1))), (a 4, .inl (eI E, 3, .inl M.2.2.2.2.2.1)), (a 5, .inl (eI E, 120, .inl M.2.2.2.2.2.2.1)), (a 6, .inl (eI E, 60, .inl M.2.2.2.2.2.2.2.1)), (a 7, .inl (eI E, 120, .inl M.2.2.2.2.2.2.2.2))] := hD
  have hl : lv_has ls 2 [(0, .ref (a 0)), (1, .int v)] := hl
  refine lv_aload_n (pc := 0) hx hb dX6_rests_0 rfl (lv_at hl 0 rfl) ?_
  obtain ⟨r1, er1⟩ : ∃ z : Mdl, fX6_laysAside M = z := ⟨_, rfl⟩
  have hr1 := kX6_laysAside l E a M
  rw [er1] at hr1
  refine gcVv (pc := 1) (w1 := [(a 0, .inr (6, [.ref (a 1), .ref (a 2), .ref (a 3), .int (r1.1 0), .ref (a 4), .ref (a 5), .int (r1.1 1), .int (r1.1 2), .int (r1.1 3), .ref (a 6), .ref (a 7), .int (r1.1 4), .int (r1.1 5), .int (r1.1 6), .long r1.2.1])), (a 1, .inl (eJ E, 68, .inr (.inl r1.2.2.1))), (a 2, .inl (eJ E, 68, .inr (.inl r1.2.2.2.1))), (a 3, .inl (eJ E, 340, .inr (.inl r1.2.2.2.2.1))), (a 4, .inl (eI E, 3, .inl r1.2.2.2.2.2.1)), (a 5, .inl (eI E, 120, .inl r1.2.2.2.2.2.2.1)), (a 6, .inl (eI E, 60, .inl r1.2.2.2.2.2.2.2.1)), (a 7, .inl (eI E, 120, .inl r1.2.2.2.2.2.2.2.2))]) (pre := []) (post := []) (As := []) (rest := []) (q0 := 0) ⟨hx, hb, hml, hown, hts⟩ hr1 (cwV 0 hts gX6_rests_X6_laysAside rfl rfl rfl qvX6_laysAside ⟨Nat.le_of_ble_eq_true rfl, Nat.le_of_ble_eq_true rfl⟩) hK hP hD hS hA rfl rfl rfl rfl rfl hl.1 rfl (Nat.le_of_ble_eq_true rfl) dX6_rests_1 ⟨Nat.zero_le _, Nat.zero_le _⟩ (fun H locs hP hD hS => ?_)
  refine lv_aload_n (pc := 4) hx hb dX6_rests_4 rfl (lv_at hl 0 rfl) ?_
  refine lv_aload_n (pc := 5) hx hb dX6_rests_5 rfl (lv_at hl 0 rfl) ?_
  refine lv_iload_n (pc := 6) hx hb dX6_rests_6 rfl (lv_at hl 1 rfl) ?_
  obtain ⟨r2, er2⟩ : ∃ z : Int32 × (Mdl), fX6_putRest r1 v = z := ⟨_, rfl⟩
  have hr2 := kX6_putRest l E a r1 v
  rw [er2] at hr2
  refine gcVi (pc := 7) (w1 := [(a 0, .inr (6, [.ref (a 1), .ref (a 2), .ref (a 3), .int (r2.2.1 0), .ref (a 4), .ref (a 5), .int (r2.2.1 1), .int (r2.2.1 2), .int (r2.2.1 3), .ref (a 6), .ref (a 7), .int (r2.2.1 4), .int (r2.2.1 5), .int (r2.2.1 6), .long r2.2.2.1])), (a 1, .inl (eJ E, 68, .inr (.inl r2.2.2.2.1))), (a 2, .inl (eJ E, 68, .inr (.inl r2.2.2.2.2.1))), (a 3, .inl (eJ E, 340, .inr (.inl r2.2.2.2.2.2.1))), (a 4, .inl (eI E, 3, .inl r2.2.2.2.2.2.2.1)), (a 5, .inl (eI E, 120, .inl r2.2.2.2.2.2.2.2.1)), (a 6, .inl (eI E, 60, .inl r2.2.2.2.2.2.2.2.2.1)), (a 7, .inl (eI E, 120, .inl r2.2.2.2.2.2.2.2.2.2))]) (pre := []) (post := []) (As := [.int v]) (rest := [.ref (a 0)]) (q0 := 0) ⟨hx, hb, hml, hown, hts⟩ hr2 (cwV 1 hts gX6_rests_X6_putRest rfl rfl rfl qvX6_putRest ⟨Nat.le_of_ble_eq_true rfl, Nat.le_of_ble_eq_true rfl⟩) hK hP hD hS hA rfl rfl rfl rfl rfl hl.1 rfl (Nat.le_of_ble_eq_true rfl) dX6_rests_7 ⟨Nat.zero_le _, Nat.zero_le _⟩ (fun H locs hP hD hS => ?_)
  obtain ⟨r3, er3⟩ : ∃ z : Int32 × (Mdl), fX6_finished r2.2 r2.1 = z := ⟨_, rfl⟩
  have hr3 := kX6_finished l E a r2.2 r2.1 (by subst er2; subst er1; exact hn) (by subst er2; subst er1; exact hv)
  rw [er3] at hr3
  refine gcVi (pc := 10) (w1 := [(a 0, .inr (6, [.ref (a 1), .ref (a 2), .ref (a 3), .int (r3.2.1 0), .ref (a 4), .ref (a 5), .int (r3.2.1 1), .int (r3.2.1 2), .int (r3.2.1 3), .ref (a 6), .ref (a 7), .int (r3.2.1 4), .int (r3.2.1 5), .int (r3.2.1 6), .long r3.2.2.1])), (a 1, .inl (eJ E, 68, .inr (.inl r3.2.2.2.1))), (a 2, .inl (eJ E, 68, .inr (.inl r3.2.2.2.2.1))), (a 3, .inl (eJ E, 340, .inr (.inl r3.2.2.2.2.2.1))), (a 4, .inl (eI E, 3, .inl r3.2.2.2.2.2.2.1)), (a 5, .inl (eI E, 120, .inl r3.2.2.2.2.2.2.2.1)), (a 6, .inl (eI E, 60, .inl r3.2.2.2.2.2.2.2.2.1)), (a 7, .inl (eI E, 120, .inl r3.2.2.2.2.2.2.2.2.2))]) (pre := []) (post := []) (As := [.int r2.1]) (rest := []) (q0 := 0) ⟨hx, hb, hml, hown, hts⟩ hr3 (cwV 1 hts gX6_rests_X6_finished rfl rfl rfl qvX6_finished ⟨Nat.le_of_ble_eq_true rfl, Nat.le_of_ble_eq_true rfl⟩) hK hP hD hS hA rfl rfl rfl rfl rfl hl.1 rfl (Nat.le_of_ble_eq_true rfl) dX6_rests_10 ⟨Nat.zero_le _, Nat.zero_le _⟩ (fun H locs hP hD hS => ?_)
  have hfn : fX6_rests M v = r3 := by
    subst er3
    subst er2
    subst er1
    exact rfl
  rw [hfn] at hQ
  exact hQ _ _ _ _ _ rfl hP hD hS dX6_rests_13

def fX6_loads (M : Mdl) (i : Int32) (v : Int32) : Int32 × (Mdl) :=
  let r1 : Mdl := fX6_laysAside M
  let r2 : Int32 × (Mdl) := fX6_putLoad r1 i v
  let r3 : Int32 × (Mdl) := fX6_finished r2.2 r2.1
  r3
abbrev rX6_loads : Room := { frames := 3, cells := 0, slots := 0, locals := 69 }
theorem qvX6_loads : yX6_loads.cls = RX6 ∧ yX6_loads.cls ≠ "java/lang/invoke/MethodHandle" ∧ yX6_loads.cls ≠ "java/lang/invoke/VarHandle" ∧ (parseMethodDescriptor yX6_loads.desc).map (fun d => d.parameters.length) = some 2 := by decide +kernel
set_option maxHeartbeats 4000000 in
set_option maxRecDepth 100000 in
theorem kX6_loads (l : Launch) (E : gEnv) (a : Nat → Nat) (M : Mdl) (i : Int32) (v : Int32) (hm : 0 ≤ (fX6_middle (fX6_laysAside M).2.2.1).toInt ∧ (fX6_middle (fX6_laysAside M).2.2.1).toInt ≤ 1000) (hn : 0 ≤ ((fX6_putLoad (fX6_laysAside M) i v).2.1 0).toInt ∧ ((fX6_putLoad (fX6_laysAside M) i v).2.1 0).toInt ≤ 5) (hv : ¬ (-10000002) < (fX6_putLoad (fX6_laysAside M) i v).1 → vp_in ((-10000002) - (fX6_putLoad (fX6_laysAside M) i v).1) 3) : gMi l E yX6_loads wsX6_loads rX6_loads [.ref (a 0), .int i, .int v] (wM E a M) (fX6_loads M i v).1 (wM E a ((fX6_loads M i v).2)) := by
  refine gMi_of (cc := cX6_loads) (maxL := 3) (ret := (some .int)) (by decide) rfl rfl (Nat.le_of_ble_eq_true rfl) ?_
  intro p e s m args below meth c A Q ls hB hQ
  obtain ⟨hx, hb, hml, hown, hts, hK, hP, hD, hA, hS, hl⟩ := hB
  have hown : s.vm.findClass RX6 = some m.cls := hown
  have hP : va_P E.1 vwCl [(a 0, .inr (6, [.ref (a 1), .ref (a 2), .ref (a 3), .int (M.1 0), .ref (a 4), .ref (a 5), .int (M.1 1), .int (M.1 2), .int (M.1 3), .ref (a 6), .ref (a 7), .int (M.1 4), .int (M.1 5), .int (M.1 6), .long M.2.1])), (a 1, .inl (eJ E, 68, .inr (.inl M.2.2.1))), (a 2, .inl (eJ E, 68, .inr (.inl M.2.2.2.1))), (a 3, .inl (eJ E, 340, .inr (.inl M.2.2.2.2.1))), (a 4, .inl (eI E, 3, .inl M.2.2.2.2.2.1)), (a 5, .inl (eI E, 120, .inl M.2.2.2.2.2.2.1)), (a 6, .inl (eI E, 60, .inl M.2.2.2.2.2.2.2.1)), (a 7, .inl (eI E, 120, .inl M.2.2.2.2.2.2.2.2))] s.heap := hP
  have hD : va_D A [(a 0, .inr (6, [.ref (a 1), .ref (a 2), .ref (a 3), .int (M.1 0), .ref (a 4), .ref (a 5), .int (M.1 1), .int (M.1 2), .int (M.1 3), .ref (a 6), .ref (a 7), .int (M.1 4), .int (M.1 5), .int (M.1 6), .long M.2.1])), (a 1, .inl (eJ E, 68, .inr (.inl M.2.2.1))), (a 2, .inl (eJ E, 68, .inr (.inl M.2.2.2.1))), (a 3, .inl (eJ E, 340, .inr (.inl M.2.2.2.2.1))), (a 4, .inl (eI E, 3, .inl M.2.2.2.2.2.1)), (a 5, .inl (eI E, 120, .inl M.2.2.2.2.2.2.1)), (a 6, .inl (eI E, 60, .inl M.2.2.2.2.2.2.2.1)), (a 7, .inl (eI E, 120, .inl M.2.2.2.2.2.2.2.2))] := hD
  have hl : lv_has ls 3 [(0, .ref (a 0)), (1, .int i), (2, .int v)] := hl
  refine lv_aload_n (pc := 0) hx hb dX6_loads_0 rfl (lv_at hl 0 rfl) ?_
  obtain ⟨r1, er1⟩ : ∃ z : Mdl, fX6_laysAside M = z := ⟨_, rfl⟩
  have hr1 := kX6_laysAside l E a M
  rw [er1] at hr1
  refine gcVv (pc := 1) (w1 := [(a 0, .inr (6, [.ref (a 1), .ref (a 2), .ref (a 3), .int (r1.1 0), .ref (a 4), .ref (a 5), .int (r1.1 1), .int (r1.1 2), .int (r1.1 3), .ref (a 6), .ref (a 7), .int (r1.1 4), .int (r1.1 5), .int (r1.1 6), .long r1.2.1])), (a 1, .inl (eJ E, 68, .inr (.inl r1.2.2.1))), (a 2, .inl (eJ E, 68, .inr (.inl r1.2.2.2.1))), (a 3, .inl (eJ E, 340, .inr (.inl r1.2.2.2.2.1))), (a 4, .inl (eI E, 3, .inl r1.2.2.2.2.2.1)), (a 5, .inl (eI E, 120, .inl r1.2.2.2.2.2.2.1)), (a 6, .inl (eI E, 60, .inl r1.2.2.2.2.2.2.2.1)), (a 7, .inl (eI E, 120, .inl r1.2.2.2.2.2.2.2.2))]) (pre := []) (post := []) (As := []) (rest := []) (q0 := 0) ⟨hx, hb, hml, hown, hts⟩ hr1 (cwV 0 hts gX6_loads_X6_laysAside rfl rfl rfl qvX6_laysAside ⟨Nat.le_of_ble_eq_true rfl, Nat.le_of_ble_eq_true rfl⟩) hK hP hD hS hA rfl rfl rfl rfl rfl hl.1 rfl (Nat.le_of_ble_eq_true rfl) dX6_loads_1 ⟨Nat.zero_le _, Nat.zero_le _⟩ (fun H locs hP hD hS => ?_)
  refine lv_aload_n (pc := 4) hx hb dX6_loads_4 rfl (lv_at hl 0 rfl) ?_
  refine lv_aload_n (pc := 5) hx hb dX6_loads_5 rfl (lv_at hl 0 rfl) ?_
  refine lv_iload_n (pc := 6) hx hb dX6_loads_6 rfl (lv_at hl 1 rfl) ?_
  refine lv_iload_n (pc := 7) hx hb dX6_loads_7 rfl (lv_at hl 2 rfl) ?_
  obtain ⟨r2, er2⟩ : ∃ z : Int32 × (Mdl), fX6_putLoad r1 i v = z := ⟨_, rfl⟩
  have hr2 := kX6_putLoad l E a r1 i v (by subst er1; exact hm)
  rw [er2] at hr2
  refine gcVi (pc := 8) (w1 := [(a 0, .inr (6, [.ref (a 1), .ref (a 2), .ref (a 3), .int (r2.2.1 0), .ref (a 4), .ref (a 5), .int (r2.2.1 1), .int (r2.2.1 2), .int (r2.2.1 3), .ref (a 6), .ref (a 7), .int (r2.2.1 4), .int (r2.2.1 5), .int (r2.2.1 6), .long r2.2.2.1])), (a 1, .inl (eJ E, 68, .inr (.inl r2.2.2.2.1))), (a 2, .inl (eJ E, 68, .inr (.inl r2.2.2.2.2.1))), (a 3, .inl (eJ E, 340, .inr (.inl r2.2.2.2.2.2.1))), (a 4, .inl (eI E, 3, .inl r2.2.2.2.2.2.2.1)), (a 5, .inl (eI E, 120, .inl r2.2.2.2.2.2.2.2.1)), (a 6, .inl (eI E, 60, .inl r2.2.2.2.2.2.2.2.2.1)), (a 7, .inl (eI E, 120, .inl r2.2.2.2.2.2.2.2.2.2))]) (pre := []) (post := []) (As := [.int i, .int v]) (rest := [.ref (a 0)]) (q0 := 0) ⟨hx, hb, hml, hown, hts⟩ hr2 (cwV 2 hts gX6_loads_X6_putLoad rfl rfl rfl qvX6_putLoad ⟨Nat.le_of_ble_eq_true rfl, Nat.le_of_ble_eq_true rfl⟩) hK hP hD hS hA rfl rfl rfl rfl rfl hl.1 rfl (Nat.le_of_ble_eq_true rfl) dX6_loads_8 ⟨Nat.zero_le _, Nat.zero_le _⟩ (fun H locs hP hD hS => ?_)
  obtain ⟨r3, er3⟩ : ∃ z : Int32 × (Mdl), fX6_finished r2.2 r2.1 = z := ⟨_, rfl⟩
  have hr3 := kX6_finished l E a r2.2 r2.1 (by subst er2; subst er1; exact hn) (by subst er2; subst er1; exact hv)
  rw [er3] at hr3
  refine gcVi (pc := 11) (w1 := [(a 0, .inr (6, [.ref (a 1), .ref (a 2), .ref (a 3), .int (r3.2.1 0), .ref (a 4), .ref (a 5), .int (r3.2.1 1), .int (r3.2.1 2), .int (r3.2.1 3), .ref (a 6), .ref (a 7), .int (r3.2.1 4), .int (r3.2.1 5), .int (r3.2.1 6), .long r3.2.2.1])), (a 1, .inl (eJ E, 68, .inr (.inl r3.2.2.2.1))), (a 2, .inl (eJ E, 68, .inr (.inl r3.2.2.2.2.1))), (a 3, .inl (eJ E, 340, .inr (.inl r3.2.2.2.2.2.1))), (a 4, .inl (eI E, 3, .inl r3.2.2.2.2.2.2.1)), (a 5, .inl (eI E, 120, .inl r3.2.2.2.2.2.2.2.1)), (a 6, .inl (eI E, 60, .inl r3.2.2.2.2.2.2.2.2.1)), (a 7, .inl (eI E, 120, .inl r3.2.2.2.2.2.2.2.2.2))]) (pre := []) (post := []) (As := [.int r2.1]) (rest := []) (q0 := 0) ⟨hx, hb, hml, hown, hts⟩ hr3 (cwV 1 hts gX6_loads_X6_finished rfl rfl rfl qvX6_finished ⟨Nat.le_of_ble_eq_true rfl, Nat.le_of_ble_eq_true rfl⟩) hK hP hD hS hA rfl rfl rfl rfl rfl hl.1 rfl (Nat.le_of_ble_eq_true rfl) dX6_loads_11 ⟨Nat.zero_le _, Nat.zero_le _⟩ (fun H locs hP hD hS => ?_)
  have hfn : fX6_loads M i v = r3 := by
    subst er3
    subst er2
    subst er1
    exact rfl
  rw [hfn] at hQ
  exact hQ _ _ _ _ _ rfl hP hD hS dX6_loads_14

def fX6_toldOf (W : Nat → Int64) (w : Int32) : Int32 :=
  let x2 : Int32 := (if 4 ≤ w then (if w = 4 then (let r3 : Int32 := fX6_middle W; r3) else ((W ((w - 1).toNatClampNeg)).toInt32)) else ((W w.toNatClampNeg).toInt32))
  x2
abbrev rX6_toldOf : Room := { frames := 1, cells := 0, slots := 0, locals := 24 }
theorem mm_X6_toldOf_1 : Cond.fieldLink RX6 7 "GaugeBoundsModel" "now" "[J" ∈ wsX6_toldOf := List.mem_of_getElem? (i := 1) rfl
theorem ii_X6_toldOf_X6 : ∀ w ∈ wsX60, w ∈ wsX6_toldOf := fun _ h => List.mem_cons_of_mem _ (List.mem_append_right _ (h))
theorem qvX6_toldOf : yX6_toldOf.cls = RX6 ∧ yX6_toldOf.cls ≠ "java/lang/invoke/MethodHandle" ∧ yX6_toldOf.cls ≠ "java/lang/invoke/VarHandle" ∧ (parseMethodDescriptor yX6_toldOf.desc).map (fun d => d.parameters.length) = some 1 := by decide +kernel
set_option maxHeartbeats 4000000 in
set_option maxRecDepth 100000 in
theorem kX6_toldOf (l : Launch) (E : gEnv) (a : Nat → Nat) (M : Mdl) (w : Int32) (hw : 0 ≤ w.toInt ∧ w.toInt ≤ 11) : gMi l E yX6_toldOf wsX6_toldOf rX6_toldOf [.ref (a 0), .int w] (wM E a M) (fX6_toldOf M.2.2.1 w) (wM E a M) := by
  refine gMi_of (cc := cX6_toldOf) (maxL := 2) (ret := (some .int)) (by decide) rfl rfl (Nat.le_of_ble_eq_true rfl) ?_
  intro p e s m args below meth c A Q ls hB hQ
  obtain ⟨hx, hb, hml, hown, hts, hK, hP, hD, hA, hS, hl⟩ := hB
  have hown : s.vm.findClass RX6 = some m.cls := hown
  have hP : va_P E.1 vwCl [(a 0, .inr (6, [.ref (a 1), .ref (a 2), .ref (a 3), .int (M.1 0), .ref (a 4), .ref (a 5), .int (M.1 1), .int (M.1 2), .int (M.1 3), .ref (a 6), .ref (a 7), .int (M.1 4), .int (M.1 5), .int (M.1 6), .long M.2.1])), (a 1, .inl (eJ E, 68, .inr (.inl M.2.2.1))), (a 2, .inl (eJ E, 68, .inr (.inl M.2.2.2.1))), (a 3, .inl (eJ E, 340, .inr (.inl M.2.2.2.2.1))), (a 4, .inl (eI E, 3, .inl M.2.2.2.2.2.1)), (a 5, .inl (eI E, 120, .inl M.2.2.2.2.2.2.1)), (a 6, .inl (eI E, 60, .inl M.2.2.2.2.2.2.2.1)), (a 7, .inl (eI E, 120, .inl M.2.2.2.2.2.2.2.2))] s.heap := hP
  have hD : va_D A [(a 0, .inr (6, [.ref (a 1), .ref (a 2), .ref (a 3), .int (M.1 0), .ref (a 4), .ref (a 5), .int (M.1 1), .int (M.1 2), .int (M.1 3), .ref (a 6), .ref (a 7), .int (M.1 4), .int (M.1 5), .int (M.1 6), .long M.2.1])), (a 1, .inl (eJ E, 68, .inr (.inl M.2.2.1))), (a 2, .inl (eJ E, 68, .inr (.inl M.2.2.2.1))), (a 3, .inl (eJ E, 340, .inr (.inl M.2.2.2.2.1))), (a 4, .inl (eI E, 3, .inl M.2.2.2.2.2.1)), (a 5, .inl (eI E, 120, .inl M.2.2.2.2.2.2.1)), (a 6, .inl (eI E, 60, .inl M.2.2.2.2.2.2.2.1)), (a 7, .inl (eI E, 120, .inl M.2.2.2.2.2.2.2.2))] := hD
  have hl : lv_has ls 2 [(0, .ref (a 0)), (1, .int w)] := hl
  refine lv_iload_n (pc := 0) hx hb dX6_toldOf_0 rfl (lv_at hl 1 rfl) ?_
  refine lv_iconst (v := 4) (pc := 1) hx hb dX6_toldOf_1 rfl ?_
  have J_3 : ∀ (H : Heap) (locs : List Loc) (ls : Array Slot) (x2 : Int32), (if 4 ≤ w then (if w = 4 then (let r3 : Int32 := fX6_middle M.2.2.1; r3) else ((M.2.2.1 ((w - 1).toNatClampNeg)).toInt32)) else ((M.2.2.1 w.toNatClampNeg).toInt32)) = x2 → va_P E.1 vwCl [(a 0, .inr (6, [.ref (a 1), .ref (a 2), .ref (a 3), .int (M.1 0), .ref (a 4), .ref (a 5), .int (M.1 1), .int (M.1 2), .int (M.1 3), .ref (a 6), .ref (a 7), .int (M.1 4), .int (M.1 5), .int (M.1 6), .long M.2.1])), (a 1, .inl (eJ E, 68, .inr (.inl M.2.2.1))), (a 2, .inl (eJ E, 68, .inr (.inl M.2.2.2.1))), (a 3, .inl (eJ E, 340, .inr (.inl M.2.2.2.2.1))), (a 4, .inl (eI E, 3, .inl M.2.2.2.2.2.1)), (a 5, .inl (eI E, 120, .inl M.2.2.2.2.2.2.1)), (a 6, .inl (eI E, 60, .inl M.2.2.2.2.2.2.2.1)), (a 7, .inl (eI E, 120, .inl M.2.2.2.2.2.2.2.2))] H → va_D A [(a 0, .inr (6, [.ref (a 1), .ref (a 2), .ref (a 3), .int (M.1 0), .ref (a 4), .ref (a 5), .int (M.1 1), .int (M.1 2), .int (M.1 3), .ref (a 6), .ref (a 7), .int (M.1 4), .int (M.1 5), .int (M.1 6), .long M.2.1])), (a 1, .inl (eJ E, 68, .inr (.inl M.2.2.1))), (a 2, .inl (eJ E, 68, .inr (.inl M.2.2.2.1))), (a 3, .inl (eJ E, 340, .inr (.inl M.2.2.2.2.1))), (a 4, .inl (eI E, 3, .inl M.2.2.2.2.2.1)), (a 5, .inl (eI E, 120, .inl M.2.2.2.2.2.2.1)), (a 6, .inl (eI E, 60, .inl M.2.2.2.2.2.2.2.1)), (a 7, .inl (eI E, 120, .inl M.2.2.2.2.2.2.2.2))] → va_S A s.heap H locs → lv_has ls 2 [(0, .ref (a 0)), (1, .int w)] → W p l e rX6_toldOf s m args below meth c H locs 0 0 Q (F0 m 36 ls [.int x2]) := by
    intro H locs ls x2 ex2 hP hD hS hl
    subst ex2
    exact hQ _ _ _ _ _ rfl hP hD hS dX6_toldOf_36
  refine lv_icmp_ge (tgt := 15) (pc := 2) hx hb dX6_toldOf_2 (by decide) (fun c_1 => ?_) (fun c_1 => ?_)
  · refine lv_iload_n (pc := 15) hx hb dX6_toldOf_15 rfl (lv_at hl 1 rfl) ?_
    refine lv_iconst (v := 4) (pc := 16) hx hb dX6_toldOf_16 rfl ?_
    refine lv_icmp_ne (tgt := 27) (pc := 17) hx hb dX6_toldOf_17 (by decide) (fun c_2 => ?_) (fun c_2 => ?_)
    · refine lv_aload_n (pc := 27) hx hb dX6_toldOf_27 rfl (lv_at hl 0 rfl) ?_
      refine g_get (v := .ref (a 1)) (pc := 28) hx hb hts ii_X6_toldOf_X6 hown hK.1 hP 0 rfl rfl 0 (by decide) ⟨rfl, rfl, rfl⟩ mm_X6_toldOf_1 rfl dX6_toldOf_28 ?_
      refine lv_iload_n (pc := 31) hx hb dX6_toldOf_31 rfl (lv_at hl 1 rfl) ?_
      refine lv_iconst (v := 1) (pc := 32) hx hb dX6_toldOf_32 rfl ?_
      refine lv_isub (pc := 33) hx hb dX6_toldOf_33 ?_
      refine g_lald (j := (w - 1).toNatClampNeg) (v := (M.2.2.1 ((w - 1).toNatClampNeg))) (pc := 34) hx hb hK.1 hP 1 1 rfl rfl (to_b hw c_1) rfl rfl dX6_toldOf_34 ?_
      refine lv_l2i (v := (M.2.2.1 ((w - 1).toNatClampNeg)).toInt32) (pc := 35) hx hb dX6_toldOf_35 rfl ?_
      exact J_3 _ _ _ _ ((if_pos c_1).trans (if_neg c_2)) hP hD hS (lv_sub hl [0, 1] rfl)
    · refine lv_aload_n (pc := 20) hx hb dX6_toldOf_20 rfl (lv_at hl 0 rfl) ?_
      obtain ⟨r3, er3⟩ : ∃ z : Int32, fX6_middle M.2.2.1 = z := ⟨_, rfl⟩
      have hr3 := kX6_middle l E a M
      rw [er3] at hr3
      refine gcVi (pc := 21) (w1 := [(a 0, .inr (6, [.ref (a 1), .ref (a 2), .ref (a 3), .int (M.1 0), .ref (a 4), .ref (a 5), .int (M.1 1), .int (M.1 2), .int (M.1 3), .ref (a 6), .ref (a 7), .int (M.1 4), .int (M.1 5), .int (M.1 6), .long M.2.1])), (a 1, .inl (eJ E, 68, .inr (.inl M.2.2.1))), (a 2, .inl (eJ E, 68, .inr (.inl M.2.2.2.1))), (a 3, .inl (eJ E, 340, .inr (.inl M.2.2.2.2.1))), (a 4, .inl (eI E, 3, .inl M.2.2.2.2.2.1)), (a 5, .inl (eI E, 120, .inl M.2.2.2.2.2.2.1)), (a 6, .inl (eI E, 60, .inl M.2.2.2.2.2.2.2.1)), (a 7, .inl (eI E, 120, .inl M.2.2.2.2.2.2.2.2))]) (pre := []) (post := []) (As := []) (rest := []) (q0 := 0) ⟨hx, hb, hml, hown, hts⟩ hr3 (cwV 0 hts gX6_toldOf_X6_middle rfl rfl rfl qvX6_middle ⟨Nat.le_of_ble_eq_true rfl, Nat.le_of_ble_eq_true rfl⟩) hK hP hD hS hA rfl rfl rfl rfl rfl hl.1 rfl (Nat.le_of_ble_eq_true rfl) dX6_toldOf_21 ⟨Nat.zero_le _, Nat.zero_le _⟩ (fun H locs hP hD hS => ?_)
      refine lv_goto (tgt := 36) (pc := 24) hx hb dX6_toldOf_24 (by decide) ?_
      subst er3
      exact J_3 _ _ _ _ ((if_pos c_1).trans (if_pos c_2)) hP hD hS (lv_sub hl [0, 1] rfl)
  · refine lv_aload_n (pc := 5) hx hb dX6_toldOf_5 rfl (lv_at hl 0 rfl) ?_
    refine g_get (v := .ref (a 1)) (pc := 6) hx hb hts ii_X6_toldOf_X6 hown hK.1 hP 0 rfl rfl 0 (by decide) ⟨rfl, rfl, rfl⟩ mm_X6_toldOf_1 rfl dX6_toldOf_6 ?_
    refine lv_iload_n (pc := 9) hx hb dX6_toldOf_9 rfl (lv_at hl 1 rfl) ?_
    refine g_lald (j := w.toNatClampNeg) (v := (M.2.2.1 w.toNatClampNeg)) (pc := 10) hx hb hK.1 hP 1 1 rfl rfl (to_a hw) rfl rfl dX6_toldOf_10 ?_
    refine lv_l2i (v := (M.2.2.1 w.toNatClampNeg).toInt32) (pc := 11) hx hb dX6_toldOf_11 rfl ?_
    refine lv_goto (tgt := 36) (pc := 12) hx hb dX6_toldOf_12 (by decide) ?_
    exact J_3 _ _ _ _ (if_neg c_1) hP hD hS (lv_sub hl [0, 1] rfl)

def fX6_told (M : Mdl) (w : Int32) : Int32 × (Mdl) :=
  let r1 : Int32 := fX6_in w.toInt64 0 11
  if r1 = 0 then
    let r3 : Int32 × (Mdl) := fX6_refuses M (-10000002)
    r3
  else
    let r4 : Int32 := fX6_toldOf M.2.2.1 w
    (r4, M)
abbrev rX6_told : Room := { frames := 2, cells := 0, slots := 0, locals := 45 }
theorem mm_X6_told_1 : Cond.constantLong RX6 129 (11) ∈ wsX6_told := List.mem_of_getElem? (i := 1) rfl
theorem mm_X6_told_2 : Cond.constant RX6 44 (-10000002) ∈ wsX6_told := List.mem_of_getElem? (i := 2) rfl
theorem qvX6_told : yX6_told.cls = RX6 ∧ yX6_told.cls ≠ "java/lang/invoke/MethodHandle" ∧ yX6_told.cls ≠ "java/lang/invoke/VarHandle" ∧ (parseMethodDescriptor yX6_told.desc).map (fun d => d.parameters.length) = some 1 := by decide +kernel
set_option maxHeartbeats 4000000 in
set_option maxRecDepth 100000 in
theorem kX6_told (l : Launch) (E : gEnv) (a : Nat → Nat) (M : Mdl) (w : Int32) : gMi l E yX6_told wsX6_told rX6_told [.ref (a 0), .int w] (wM E a M) (fX6_told M w).1 (wM E a ((fX6_told M w).2)) := by
  refine gMi_of (cc := cX6_told) (maxL := 2) (ret := (some .int)) (by decide) rfl rfl (Nat.le_of_ble_eq_true rfl) ?_
  intro p e s m args below meth c A Q ls hB hQ
  obtain ⟨hx, hb, hml, hown, hts, hK, hP, hD, hA, hS, hl⟩ := hB
  have hown : s.vm.findClass RX6 = some m.cls := hown
  have hP : va_P E.1 vwCl [(a 0, .inr (6, [.ref (a 1), .ref (a 2), .ref (a 3), .int (M.1 0), .ref (a 4), .ref (a 5), .int (M.1 1), .int (M.1 2), .int (M.1 3), .ref (a 6), .ref (a 7), .int (M.1 4), .int (M.1 5), .int (M.1 6), .long M.2.1])), (a 1, .inl (eJ E, 68, .inr (.inl M.2.2.1))), (a 2, .inl (eJ E, 68, .inr (.inl M.2.2.2.1))), (a 3, .inl (eJ E, 340, .inr (.inl M.2.2.2.2.1))), (a 4, .inl (eI E, 3, .inl M.2.2.2.2.2.1)), (a 5, .inl (eI E, 120, .inl M.2.2.2.2.2.2.1)), (a 6, .inl (eI E, 60, .inl M.2.2.2.2.2.2.2.1)), (a 7, .inl (eI E, 120, .inl M.2.2.2.2.2.2.2.2))] s.heap := hP
  have hD : va_D A [(a 0, .inr (6, [.ref (a 1), .ref (a 2), .ref (a 3), .int (M.1 0), .ref (a 4), .ref (a 5), .int (M.1 1), .int (M.1 2), .int (M.1 3), .ref (a 6), .ref (a 7), .int (M.1 4), .int (M.1 5), .int (M.1 6), .long M.2.1])), (a 1, .inl (eJ E, 68, .inr (.inl M.2.2.1))), (a 2, .inl (eJ E, 68, .inr (.inl M.2.2.2.1))), (a 3, .inl (eJ E, 340, .inr (.inl M.2.2.2.2.1))), (a 4, .inl (eI E, 3, .inl M.2.2.2.2.2.1)), (a 5, .inl (eI E, 120, .inl M.2.2.2.2.2.2.1)), (a 6, .inl (eI E, 60, .inl M.2.2.2.2.2.2.2.1)), (a 7, .inl (eI E, 120, .inl M.2.2.2.2.2.2.2.2))] := hD
  have hl : lv_has ls 2 [(0, .ref (a 0)), (1, .int w)] := hl
  refine lv_iload_n (pc := 0) hx hb dX6_told_0 rfl (lv_at hl 1 rfl) ?_
  refine lv_i2l (v := w.toInt64) (pc := 1) hx hb dX6_told_1 rfl ?_
  refine lv_lconst (v := 0) (pc := 2) hx hb dX6_told_2 rfl ?_
  refine lv_ldc2 (v := (11)) (pc := 3) hx hb hown (hts _ mm_X6_told_1) dX6_told_3 ?_
  obtain ⟨r1, er1⟩ : ∃ z : Int32, fX6_in w.toInt64 0 11 = z := ⟨_, rfl⟩
  have hr1 := kX6_in l E w.toInt64 0 11
  rw [er1] at hr1
  refine gcSi (pc := 6) (As := [.long w.toInt64, .long 0, .long 11]) (rest := []) ⟨hx, hb, hml, hown, hts⟩ hr1 (cwS 3 hts gX6_told_X6_in rfl rfl rfl qsX6_in ⟨Nat.le_of_ble_eq_true rfl, Nat.le_of_ble_eq_true rfl⟩) hK hP hD hS hA rfl hl.1 rfl (Nat.le_of_ble_eq_true rfl) dX6_told_6 ⟨Nat.zero_le _, Nat.zero_le _⟩ (fun H locs hP hD hS => ?_)
  refine lv_if_eq (tgt := 20) (pc := 9) hx hb dX6_told_9 (by decide) (fun c_2 => ?_) (fun c_2 => ?_)
  · refine lv_aload_n (pc := 20) hx hb dX6_told_20 rfl (lv_at hl 0 rfl) ?_
    refine lv_ldc (v := (-10000002)) (pc := 21) hx hb hown (hts _ mm_X6_told_2) dX6_told_21 ?_
    obtain ⟨r3, er3⟩ : ∃ z : Int32 × (Mdl), fX6_refuses M (-10000002) = z := ⟨_, rfl⟩
    have hr3 := kX6_refuses l E a M (-10000002) hv_bad
    rw [er3] at hr3
    refine gcVi (pc := 23) (w1 := [(a 0, .inr (6, [.ref (a 1), .ref (a 2), .ref (a 3), .int (r3.2.1 0), .ref (a 4), .ref (a 5), .int (r3.2.1 1), .int (r3.2.1 2), .int (r3.2.1 3), .ref (a 6), .ref (a 7), .int (r3.2.1 4), .int (r3.2.1 5), .int (r3.2.1 6), .long r3.2.2.1])), (a 1, .inl (eJ E, 68, .inr (.inl r3.2.2.2.1))), (a 2, .inl (eJ E, 68, .inr (.inl r3.2.2.2.2.1))), (a 3, .inl (eJ E, 340, .inr (.inl r3.2.2.2.2.2.1))), (a 4, .inl (eI E, 3, .inl r3.2.2.2.2.2.2.1)), (a 5, .inl (eI E, 120, .inl r3.2.2.2.2.2.2.2.1)), (a 6, .inl (eI E, 60, .inl r3.2.2.2.2.2.2.2.2.1)), (a 7, .inl (eI E, 120, .inl r3.2.2.2.2.2.2.2.2.2))]) (pre := []) (post := []) (As := [.int (-10000002)]) (rest := []) (q0 := 0) ⟨hx, hb, hml, hown, hts⟩ hr3 (cwV 1 hts gX6_told_X6_refuses rfl rfl rfl qvX6_refuses ⟨Nat.le_of_ble_eq_true rfl, Nat.le_of_ble_eq_true rfl⟩) hK hP hD hS hA rfl rfl rfl rfl rfl hl.1 rfl (Nat.le_of_ble_eq_true rfl) dX6_told_23 ⟨Nat.zero_le _, Nat.zero_le _⟩ (fun H locs hP hD hS => ?_)
    subst er3
    subst er1
    have hfn : fX6_told M w = _ := if_pos c_2
    rw [hfn] at hQ
    exact hQ _ _ _ _ _ rfl hP hD hS dX6_told_26
  · refine lv_aload_n (pc := 12) hx hb dX6_told_12 rfl (lv_at hl 0 rfl) ?_
    refine lv_iload_n (pc := 13) hx hb dX6_told_13 rfl (lv_at hl 1 rfl) ?_
    obtain ⟨r4, er4⟩ : ∃ z : Int32, fX6_toldOf M.2.2.1 w = z := ⟨_, rfl⟩
    have hr4 := kX6_toldOf l E a M w (by subst er1; exact in_i c_2)
    rw [er4] at hr4
    refine gcVi (pc := 14) (w1 := [(a 0, .inr (6, [.ref (a 1), .ref (a 2), .ref (a 3), .int (M.1 0), .ref (a 4), .ref (a 5), .int (M.1 1), .int (M.1 2), .int (M.1 3), .ref (a 6), .ref (a 7), .int (M.1 4), .int (M.1 5), .int (M.1 6), .long M.2.1])), (a 1, .inl (eJ E, 68, .inr (.inl M.2.2.1))), (a 2, .inl (eJ E, 68, .inr (.inl M.2.2.2.1))), (a 3, .inl (eJ E, 340, .inr (.inl M.2.2.2.2.1))), (a 4, .inl (eI E, 3, .inl M.2.2.2.2.2.1)), (a 5, .inl (eI E, 120, .inl M.2.2.2.2.2.2.1)), (a 6, .inl (eI E, 60, .inl M.2.2.2.2.2.2.2.1)), (a 7, .inl (eI E, 120, .inl M.2.2.2.2.2.2.2.2))]) (pre := []) (post := []) (As := [.int w]) (rest := []) (q0 := 0) ⟨hx, hb, hml, hown, hts⟩ hr4 (cwV 1 hts gX6_told_X6_toldOf rfl rfl rfl qvX6_toldOf ⟨Nat.le_of_ble_eq_true rfl, Nat.le_of_ble_eq_true rfl⟩) hK hP hD hS hA rfl rfl rfl rfl rfl hl.1 rfl (Nat.le_of_ble_eq_true rfl) dX6_told_14 ⟨Nat.zero_le _, Nat.zero_le _⟩ (fun H locs hP hD hS => ?_)
    refine lv_goto (tgt := 26) (pc := 17) hx hb dX6_told_17 (by decide) ?_
    subst er4
    subst er1
    have hfn : fX6_told M w = _ := if_neg c_2
    rw [hfn] at hQ
    exact hQ _ _ _ _ _ rfl hP hD hS dX6_told_26

def fX6_volts (M : Mdl) (v : Int32) : Int32 × (Mdl) :=
  let r1 : Int32 := fX6_in v.toInt64 0 1000
  if r1 = 0 then
    let r3 : Int32 × (Mdl) := fX6_refuses M (-10000002)
    r3
  else
    let r4 : Int32 := fX6_voltsAt M.2.2.1 v
    (r4, M)
abbrev rX6_volts : Room := { frames := 1, cells := 0, slots := 0, locals := 25 }
theorem mm_X6_volts_1 : Cond.constantLong RX6 32 (1000) ∈ wsX6_volts := List.mem_of_getElem? (i := 1) rfl
theorem mm_X6_volts_2 : Cond.constant RX6 44 (-10000002) ∈ wsX6_volts := List.mem_of_getElem? (i := 2) rfl
theorem qvX6_volts : yX6_volts.cls = RX6 ∧ yX6_volts.cls ≠ "java/lang/invoke/MethodHandle" ∧ yX6_volts.cls ≠ "java/lang/invoke/VarHandle" ∧ (parseMethodDescriptor yX6_volts.desc).map (fun d => d.parameters.length) = some 1 := by decide +kernel
set_option maxHeartbeats 4000000 in
set_option maxRecDepth 100000 in
theorem kX6_volts (l : Launch) (E : gEnv) (a : Nat → Nat) (M : Mdl) (v : Int32) : gMi l E yX6_volts wsX6_volts rX6_volts [.ref (a 0), .int v] (wM E a M) (fX6_volts M v).1 (wM E a ((fX6_volts M v).2)) := by
  refine gMi_of (cc := cX6_volts) (maxL := 2) (ret := (some .int)) (by decide) rfl rfl (Nat.le_of_ble_eq_true rfl) ?_
  intro p e s m args below meth c A Q ls hB hQ
  obtain ⟨hx, hb, hml, hown, hts, hK, hP, hD, hA, hS, hl⟩ := hB
  have hown : s.vm.findClass RX6 = some m.cls := hown
  have hP : va_P E.1 vwCl [(a 0, .inr (6, [.ref (a 1), .ref (a 2), .ref (a 3), .int (M.1 0), .ref (a 4), .ref (a 5), .int (M.1 1), .int (M.1 2), .int (M.1 3), .ref (a 6), .ref (a 7), .int (M.1 4), .int (M.1 5), .int (M.1 6), .long M.2.1])), (a 1, .inl (eJ E, 68, .inr (.inl M.2.2.1))), (a 2, .inl (eJ E, 68, .inr (.inl M.2.2.2.1))), (a 3, .inl (eJ E, 340, .inr (.inl M.2.2.2.2.1))), (a 4, .inl (eI E, 3, .inl M.2.2.2.2.2.1)), (a 5, .inl (eI E, 120, .inl M.2.2.2.2.2.2.1)), (a 6, .inl (eI E, 60, .inl M.2.2.2.2.2.2.2.1)), (a 7, .inl (eI E, 120, .inl M.2.2.2.2.2.2.2.2))] s.heap := hP
  have hD : va_D A [(a 0, .inr (6, [.ref (a 1), .ref (a 2), .ref (a 3), .int (M.1 0), .ref (a 4), .ref (a 5), .int (M.1 1), .int (M.1 2), .int (M.1 3), .ref (a 6), .ref (a 7), .int (M.1 4), .int (M.1 5), .int (M.1 6), .long M.2.1])), (a 1, .inl (eJ E, 68, .inr (.inl M.2.2.1))), (a 2, .inl (eJ E, 68, .inr (.inl M.2.2.2.1))), (a 3, .inl (eJ E, 340, .inr (.inl M.2.2.2.2.1))), (a 4, .inl (eI E, 3, .inl M.2.2.2.2.2.1)), (a 5, .inl (eI E, 120, .inl M.2.2.2.2.2.2.1)), (a 6, .inl (eI E, 60, .inl M.2.2.2.2.2.2.2.1)), (a 7, .inl (eI E, 120, .inl M.2.2.2.2.2.2.2.2))] := hD
  have hl : lv_has ls 2 [(0, .ref (a 0)), (1, .int v)] := hl
  refine lv_iload_n (pc := 0) hx hb dX6_volts_0 rfl (lv_at hl 1 rfl) ?_
  refine lv_i2l (v := v.toInt64) (pc := 1) hx hb dX6_volts_1 rfl ?_
  refine lv_lconst (v := 0) (pc := 2) hx hb dX6_volts_2 rfl ?_
  refine lv_ldc2 (v := (1000)) (pc := 3) hx hb hown (hts _ mm_X6_volts_1) dX6_volts_3 ?_
  obtain ⟨r1, er1⟩ : ∃ z : Int32, fX6_in v.toInt64 0 1000 = z := ⟨_, rfl⟩
  have hr1 := kX6_in l E v.toInt64 0 1000
  rw [er1] at hr1
  refine gcSi (pc := 6) (As := [.long v.toInt64, .long 0, .long 1000]) (rest := []) ⟨hx, hb, hml, hown, hts⟩ hr1 (cwS 3 hts gX6_volts_X6_in rfl rfl rfl qsX6_in ⟨Nat.le_of_ble_eq_true rfl, Nat.le_of_ble_eq_true rfl⟩) hK hP hD hS hA rfl hl.1 rfl (Nat.le_of_ble_eq_true rfl) dX6_volts_6 ⟨Nat.zero_le _, Nat.zero_le _⟩ (fun H locs hP hD hS => ?_)
  refine lv_if_eq (tgt := 20) (pc := 9) hx hb dX6_volts_9 (by decide) (fun c_2 => ?_) (fun c_2 => ?_)
  · refine lv_aload_n (pc := 20) hx hb dX6_volts_20 rfl (lv_at hl 0 rfl) ?_
    refine lv_ldc (v := (-10000002)) (pc := 21) hx hb hown (hts _ mm_X6_volts_2) dX6_volts_21 ?_
    obtain ⟨r3, er3⟩ : ∃ z : Int32 × (Mdl), fX6_refuses M (-10000002) = z := ⟨_, rfl⟩
    have hr3 := kX6_refuses l E a M (-10000002) hv_bad
    rw [er3] at hr3
    refine gcVi (pc := 23) (w1 := [(a 0, .inr (6, [.ref (a 1), .ref (a 2), .ref (a 3), .int (r3.2.1 0), .ref (a 4), .ref (a 5), .int (r3.2.1 1), .int (r3.2.1 2), .int (r3.2.1 3), .ref (a 6), .ref (a 7), .int (r3.2.1 4), .int (r3.2.1 5), .int (r3.2.1 6), .long r3.2.2.1])), (a 1, .inl (eJ E, 68, .inr (.inl r3.2.2.2.1))), (a 2, .inl (eJ E, 68, .inr (.inl r3.2.2.2.2.1))), (a 3, .inl (eJ E, 340, .inr (.inl r3.2.2.2.2.2.1))), (a 4, .inl (eI E, 3, .inl r3.2.2.2.2.2.2.1)), (a 5, .inl (eI E, 120, .inl r3.2.2.2.2.2.2.2.1)), (a 6, .inl (eI E, 60, .inl r3.2.2.2.2.2.2.2.2.1)), (a 7, .inl (eI E, 120, .inl r3.2.2.2.2.2.2.2.2.2))]) (pre := []) (post := []) (As := [.int (-10000002)]) (rest := []) (q0 := 0) ⟨hx, hb, hml, hown, hts⟩ hr3 (cwV 1 hts gX6_volts_X6_refuses rfl rfl rfl qvX6_refuses ⟨Nat.le_of_ble_eq_true rfl, Nat.le_of_ble_eq_true rfl⟩) hK hP hD hS hA rfl rfl rfl rfl rfl hl.1 rfl (Nat.le_of_ble_eq_true rfl) dX6_volts_23 ⟨Nat.zero_le _, Nat.zero_le _⟩ (fun H locs hP hD hS => ?_)
    subst er3
    subst er1
    have hfn : fX6_volts M v = _ := if_pos c_2
    rw [hfn] at hQ
    exact hQ _ _ _ _ _ rfl hP hD hS dX6_volts_26
  · refine lv_aload_n (pc := 12) hx hb dX6_volts_12 rfl (lv_at hl 0 rfl) ?_
    refine lv_iload_n (pc := 13) hx hb dX6_volts_13 rfl (lv_at hl 1 rfl) ?_
    obtain ⟨r4, er4⟩ : ∃ z : Int32, fX6_voltsAt M.2.2.1 v = z := ⟨_, rfl⟩
    have hr4 := kX6_voltsAt l E a M v (by subst er1; exact in_i c_2)
    rw [er4] at hr4
    refine gcVi (pc := 14) (w1 := [(a 0, .inr (6, [.ref (a 1), .ref (a 2), .ref (a 3), .int (M.1 0), .ref (a 4), .ref (a 5), .int (M.1 1), .int (M.1 2), .int (M.1 3), .ref (a 6), .ref (a 7), .int (M.1 4), .int (M.1 5), .int (M.1 6), .long M.2.1])), (a 1, .inl (eJ E, 68, .inr (.inl M.2.2.1))), (a 2, .inl (eJ E, 68, .inr (.inl M.2.2.2.1))), (a 3, .inl (eJ E, 340, .inr (.inl M.2.2.2.2.1))), (a 4, .inl (eI E, 3, .inl M.2.2.2.2.2.1)), (a 5, .inl (eI E, 120, .inl M.2.2.2.2.2.2.1)), (a 6, .inl (eI E, 60, .inl M.2.2.2.2.2.2.2.1)), (a 7, .inl (eI E, 120, .inl M.2.2.2.2.2.2.2.2))]) (pre := []) (post := []) (As := [.int v]) (rest := []) (q0 := 0) ⟨hx, hb, hml, hown, hts⟩ hr4 (cwV 1 hts gX6_volts_X6_voltsAt rfl rfl rfl qvX6_voltsAt ⟨Nat.le_of_ble_eq_true rfl, Nat.le_of_ble_eq_true rfl⟩) hK hP hD hS hA rfl rfl rfl rfl rfl hl.1 rfl (Nat.le_of_ble_eq_true rfl) dX6_volts_14 ⟨Nat.zero_le _, Nat.zero_le _⟩ (fun H locs hP hD hS => ?_)
    refine lv_goto (tgt := 26) (pc := 17) hx hb dX6_volts_17 (by decide) ?_
    subst er4
    subst er1
    have hfn : fX6_volts M v = _ := if_neg c_2
    rw [hfn] at hQ
    exact hQ _ _ _ _ _ rfl hP hD hS dX6_volts_26

noncomputable def fX6_inverse (M : Mdl) (v : Int32) (w : Int32) : Int32 × (Mdl) :=
  let r1 : Int32 := fX6_in v.toInt64 0 9999
  if r1 = 0 then
    let r3 : Int32 × (Mdl) := fX6_refuses M (-10000002)
    r3
  else
    let r4 : Int32 := fX6_in w.toInt64 0 1
    if r4 = 0 then
      let r10 : Int32 × (Mdl) := fX6_refuses M (-10000002)
      r10
    else
      let r6 : Mdl := fX6_turns M v
      let x8 : Int32 := (if w = 0 then (r6.1 2) else (r6.1 3))
      (x8, r6)
abbrev rX6_inverse : Room := { frames := 2, cells := 0, slots := 0, locals := 48 }
theorem mm_X6_inverse_1 : Cond.constantLong RX6 73 (9999) ∈ wsX6_inverse := List.mem_of_getElem? (i := 1) rfl
theorem mm_X6_inverse_2 : Cond.constant RX6 44 (-10000002) ∈ wsX6_inverse := List.mem_of_getElem? (i := 2) rfl
theorem mm_X6_inverse_4 : Cond.fieldLink RX6 61 "GaugeBoundsModel" "greatest" "I" ∈ wsX6_inverse := List.mem_of_getElem? (i := 4) rfl
theorem mm_X6_inverse_3 : Cond.fieldLink RX6 58 "GaugeBoundsModel" "least" "I" ∈ wsX6_inverse := List.mem_of_getElem? (i := 3) rfl
theorem ii_X6_inverse_X6 : ∀ w ∈ wsX60, w ∈ wsX6_inverse := fun _ h => List.mem_cons_of_mem _ (List.mem_append_right _ (h))
theorem qvX6_inverse : yX6_inverse.cls = RX6 ∧ yX6_inverse.cls ≠ "java/lang/invoke/MethodHandle" ∧ yX6_inverse.cls ≠ "java/lang/invoke/VarHandle" ∧ (parseMethodDescriptor yX6_inverse.desc).map (fun d => d.parameters.length) = some 2 := by decide +kernel
set_option maxHeartbeats 4000000 in
set_option maxRecDepth 100000 in
theorem kX6_inverse (l : Launch) (E : gEnv) (a : Nat → Nat) (M : Mdl) (v : Int32) (w : Int32) : gMi l E yX6_inverse wsX6_inverse rX6_inverse [.ref (a 0), .int v, .int w] (wM E a M) (fX6_inverse M v w).1 (wM E a ((fX6_inverse M v w).2)) := by
  refine gMi_of (cc := cX6_inverse) (maxL := 3) (ret := (some .int)) (by decide) rfl rfl (Nat.le_of_ble_eq_true rfl) ?_
  intro p e s m args below meth c A Q ls hB hQ
  obtain ⟨hx, hb, hml, hown, hts, hK, hP, hD, hA, hS, hl⟩ := hB
  have hown : s.vm.findClass RX6 = some m.cls := hown
  have hP : va_P E.1 vwCl [(a 0, .inr (6, [.ref (a 1), .ref (a 2), .ref (a 3), .int (M.1 0), .ref (a 4), .ref (a 5), .int (M.1 1), .int (M.1 2), .int (M.1 3), .ref (a 6), .ref (a 7), .int (M.1 4), .int (M.1 5), .int (M.1 6), .long M.2.1])), (a 1, .inl (eJ E, 68, .inr (.inl M.2.2.1))), (a 2, .inl (eJ E, 68, .inr (.inl M.2.2.2.1))), (a 3, .inl (eJ E, 340, .inr (.inl M.2.2.2.2.1))), (a 4, .inl (eI E, 3, .inl M.2.2.2.2.2.1)), (a 5, .inl (eI E, 120, .inl M.2.2.2.2.2.2.1)), (a 6, .inl (eI E, 60, .inl M.2.2.2.2.2.2.2.1)), (a 7, .inl (eI E, 120, .inl M.2.2.2.2.2.2.2.2))] s.heap := hP
  have hD : va_D A [(a 0, .inr (6, [.ref (a 1), .ref (a 2), .ref (a 3), .int (M.1 0), .ref (a 4), .ref (a 5), .int (M.1 1), .int (M.1 2), .int (M.1 3), .ref (a 6), .ref (a 7), .int (M.1 4), .int (M.1 5), .int (M.1 6), .long M.2.1])), (a 1, .inl (eJ E, 68, .inr (.inl M.2.2.1))), (a 2, .inl (eJ E, 68, .inr (.inl M.2.2.2.1))), (a 3, .inl (eJ E, 340, .inr (.inl M.2.2.2.2.1))), (a 4, .inl (eI E, 3, .inl M.2.2.2.2.2.1)), (a 5, .inl (eI E, 120, .inl M.2.2.2.2.2.2.1)), (a 6, .inl (eI E, 60, .inl M.2.2.2.2.2.2.2.1)), (a 7, .inl (eI E, 120, .inl M.2.2.2.2.2.2.2.2))] := hD
  have hl : lv_has ls 3 [(0, .ref (a 0)), (1, .int v), (2, .int w)] := hl
  refine lv_iload_n (pc := 0) hx hb dX6_inverse_0 rfl (lv_at hl 1 rfl) ?_
  refine lv_i2l (v := v.toInt64) (pc := 1) hx hb dX6_inverse_1 rfl ?_
  refine lv_lconst (v := 0) (pc := 2) hx hb dX6_inverse_2 rfl ?_
  refine lv_ldc2 (v := (9999)) (pc := 3) hx hb hown (hts _ mm_X6_inverse_1) dX6_inverse_3 ?_
  obtain ⟨r1, er1⟩ : ∃ z : Int32, fX6_in v.toInt64 0 9999 = z := ⟨_, rfl⟩
  have hr1 := kX6_in l E v.toInt64 0 9999
  rw [er1] at hr1
  refine gcSi (pc := 6) (As := [.long v.toInt64, .long 0, .long 9999]) (rest := []) ⟨hx, hb, hml, hown, hts⟩ hr1 (cwS 3 hts gX6_inverse_X6_in rfl rfl rfl qsX6_in ⟨Nat.le_of_ble_eq_true rfl, Nat.le_of_ble_eq_true rfl⟩) hK hP hD hS hA rfl hl.1 rfl (Nat.le_of_ble_eq_true rfl) dX6_inverse_6 ⟨Nat.zero_le _, Nat.zero_le _⟩ (fun H locs hP hD hS => ?_)
  refine lv_if_eq (tgt := 22) (pc := 9) hx hb dX6_inverse_9 (by decide) (fun c_2 => ?_) (fun c_2 => ?_)
  · refine lv_aload_n (pc := 22) hx hb dX6_inverse_22 rfl (lv_at hl 0 rfl) ?_
    refine lv_ldc (v := (-10000002)) (pc := 23) hx hb hown (hts _ mm_X6_inverse_2) dX6_inverse_23 ?_
    obtain ⟨r3, er3⟩ : ∃ z : Int32 × (Mdl), fX6_refuses M (-10000002) = z := ⟨_, rfl⟩
    have hr3 := kX6_refuses l E a M (-10000002) hv_bad
    rw [er3] at hr3
    refine gcVi (pc := 25) (w1 := [(a 0, .inr (6, [.ref (a 1), .ref (a 2), .ref (a 3), .int (r3.2.1 0), .ref (a 4), .ref (a 5), .int (r3.2.1 1), .int (r3.2.1 2), .int (r3.2.1 3), .ref (a 6), .ref (a 7), .int (r3.2.1 4), .int (r3.2.1 5), .int (r3.2.1 6), .long r3.2.2.1])), (a 1, .inl (eJ E, 68, .inr (.inl r3.2.2.2.1))), (a 2, .inl (eJ E, 68, .inr (.inl r3.2.2.2.2.1))), (a 3, .inl (eJ E, 340, .inr (.inl r3.2.2.2.2.2.1))), (a 4, .inl (eI E, 3, .inl r3.2.2.2.2.2.2.1)), (a 5, .inl (eI E, 120, .inl r3.2.2.2.2.2.2.2.1)), (a 6, .inl (eI E, 60, .inl r3.2.2.2.2.2.2.2.2.1)), (a 7, .inl (eI E, 120, .inl r3.2.2.2.2.2.2.2.2.2))]) (pre := []) (post := []) (As := [.int (-10000002)]) (rest := []) (q0 := 0) ⟨hx, hb, hml, hown, hts⟩ hr3 (cwV 1 hts gX6_inverse_X6_refuses rfl rfl rfl qvX6_refuses ⟨Nat.le_of_ble_eq_true rfl, Nat.le_of_ble_eq_true rfl⟩) hK hP hD hS hA rfl rfl rfl rfl rfl hl.1 rfl (Nat.le_of_ble_eq_true rfl) dX6_inverse_25 ⟨Nat.zero_le _, Nat.zero_le _⟩ (fun H locs hP hD hS => ?_)
    subst er3
    subst er1
    have hfn : fX6_inverse M v w = _ := if_pos c_2
    rw [hfn] at hQ
    exact hQ _ _ _ _ _ rfl hP hD hS dX6_inverse_28
  · refine lv_iload_n (pc := 12) hx hb dX6_inverse_12 rfl (lv_at hl 2 rfl) ?_
    refine lv_i2l (v := w.toInt64) (pc := 13) hx hb dX6_inverse_13 rfl ?_
    refine lv_lconst (v := 0) (pc := 14) hx hb dX6_inverse_14 rfl ?_
    refine lv_lconst (v := 1) (pc := 15) hx hb dX6_inverse_15 rfl ?_
    obtain ⟨r4, er4⟩ : ∃ z : Int32, fX6_in w.toInt64 0 1 = z := ⟨_, rfl⟩
    have hr4 := kX6_in l E w.toInt64 0 1
    rw [er4] at hr4
    refine gcSi (pc := 16) (As := [.long w.toInt64, .long 0, .long 1]) (rest := []) ⟨hx, hb, hml, hown, hts⟩ hr4 (cwS 3 hts gX6_inverse_X6_in rfl rfl rfl qsX6_in ⟨Nat.le_of_ble_eq_true rfl, Nat.le_of_ble_eq_true rfl⟩) hK hP hD hS hA rfl hl.1 rfl (Nat.le_of_ble_eq_true rfl) dX6_inverse_16 ⟨Nat.zero_le _, Nat.zero_le _⟩ (fun H locs hP hD hS => ?_)
    refine lv_if_ne (tgt := 29) (pc := 19) hx hb dX6_inverse_19 (by decide) (fun c_5 => ?_) (fun c_5 => ?_)
    · refine lv_aload_n (pc := 29) hx hb dX6_inverse_29 rfl (lv_at hl 0 rfl) ?_
      refine lv_iload_n (pc := 30) hx hb dX6_inverse_30 rfl (lv_at hl 1 rfl) ?_
      obtain ⟨r6, er6⟩ : ∃ z : Mdl, fX6_turns M v = z := ⟨_, rfl⟩
      have hr6 := kX6_turns l E a M v
      rw [er6] at hr6
      refine gcVv (pc := 31) (w1 := [(a 0, .inr (6, [.ref (a 1), .ref (a 2), .ref (a 3), .int (r6.1 0), .ref (a 4), .ref (a 5), .int (r6.1 1), .int (r6.1 2), .int (r6.1 3), .ref (a 6), .ref (a 7), .int (r6.1 4), .int (r6.1 5), .int (r6.1 6), .long r6.2.1])), (a 1, .inl (eJ E, 68, .inr (.inl r6.2.2.1))), (a 2, .inl (eJ E, 68, .inr (.inl r6.2.2.2.1))), (a 3, .inl (eJ E, 340, .inr (.inl r6.2.2.2.2.1))), (a 4, .inl (eI E, 3, .inl r6.2.2.2.2.2.1)), (a 5, .inl (eI E, 120, .inl r6.2.2.2.2.2.2.1)), (a 6, .inl (eI E, 60, .inl r6.2.2.2.2.2.2.2.1)), (a 7, .inl (eI E, 120, .inl r6.2.2.2.2.2.2.2.2))]) (pre := []) (post := []) (As := [.int v]) (rest := []) (q0 := 0) ⟨hx, hb, hml, hown, hts⟩ hr6 (cwV 1 hts gX6_inverse_X6_turns rfl rfl rfl qvX6_turns ⟨Nat.le_of_ble_eq_true rfl, Nat.le_of_ble_eq_true rfl⟩) hK hP hD hS hA rfl rfl rfl rfl rfl hl.1 rfl (Nat.le_of_ble_eq_true rfl) dX6_inverse_31 ⟨Nat.zero_le _, Nat.zero_le _⟩ (fun H locs hP hD hS => ?_)
      refine lv_iload_n (pc := 34) hx hb dX6_inverse_34 rfl (lv_at hl 2 rfl) ?_
      have J_9 : ∀ (H : Heap) (locs : List Loc) (ls : Array Slot) (x8 : Int32), (if w = 0 then (r6.1 2) else (r6.1 3)) = x8 → va_P E.1 vwCl [(a 0, .inr (6, [.ref (a 1), .ref (a 2), .ref (a 3), .int (r6.1 0), .ref (a 4), .ref (a 5), .int (r6.1 1), .int (r6.1 2), .int (r6.1 3), .ref (a 6), .ref (a 7), .int (r6.1 4), .int (r6.1 5), .int (r6.1 6), .long r6.2.1])), (a 1, .inl (eJ E, 68, .inr (.inl r6.2.2.1))), (a 2, .inl (eJ E, 68, .inr (.inl r6.2.2.2.1))), (a 3, .inl (eJ E, 340, .inr (.inl r6.2.2.2.2.1))), (a 4, .inl (eI E, 3, .inl r6.2.2.2.2.2.1)), (a 5, .inl (eI E, 120, .inl r6.2.2.2.2.2.2.1)), (a 6, .inl (eI E, 60, .inl r6.2.2.2.2.2.2.2.1)), (a 7, .inl (eI E, 120, .inl r6.2.2.2.2.2.2.2.2))] H → va_D A [(a 0, .inr (6, [.ref (a 1), .ref (a 2), .ref (a 3), .int (r6.1 0), .ref (a 4), .ref (a 5), .int (r6.1 1), .int (r6.1 2), .int (r6.1 3), .ref (a 6), .ref (a 7), .int (r6.1 4), .int (r6.1 5), .int (r6.1 6), .long r6.2.1])), (a 1, .inl (eJ E, 68, .inr (.inl r6.2.2.1))), (a 2, .inl (eJ E, 68, .inr (.inl r6.2.2.2.1))), (a 3, .inl (eJ E, 340, .inr (.inl r6.2.2.2.2.1))), (a 4, .inl (eI E, 3, .inl r6.2.2.2.2.2.1)), (a 5, .inl (eI E, 120, .inl r6.2.2.2.2.2.2.1)), (a 6, .inl (eI E, 60, .inl r6.2.2.2.2.2.2.2.1)), (a 7, .inl (eI E, 120, .inl r6.2.2.2.2.2.2.2.2))] → va_S A s.heap H locs → lv_has ls 3 [(0, .ref (a 0)), (1, .int v), (2, .int w)] → W p l e rX6_inverse s m args below meth c H locs 0 0 Q (F0 m 49 ls [.int x8]) := by
        intro H locs ls x8 ex8 hP hD hS hl
        subst ex8
        subst er6
        subst er4
        subst er1
        have hfn : fX6_inverse M v w = _ := (if_neg c_2).trans (if_neg c_5)
        rw [hfn] at hQ
        exact hQ _ _ _ _ _ rfl hP hD hS dX6_inverse_49
      refine lv_if_ne (tgt := 45) (pc := 35) hx hb dX6_inverse_35 (by decide) (fun c_7 => ?_) (fun c_7 => ?_)
      · refine lv_aload_n (pc := 45) hx hb dX6_inverse_45 rfl (lv_at hl 0 rfl) ?_
        refine g_get (v := .int (r6.1 3)) (pc := 46) hx hb hts ii_X6_inverse_X6 hown hK.1 hP 0 rfl rfl 8 (by decide) ⟨rfl, rfl, rfl⟩ mm_X6_inverse_4 rfl dX6_inverse_46 ?_
        exact J_9 _ _ _ _ (if_neg c_7) hP hD hS (lv_sub hl [0, 1, 2] rfl)
      · refine lv_aload_n (pc := 38) hx hb dX6_inverse_38 rfl (lv_at hl 0 rfl) ?_
        refine g_get (v := .int (r6.1 2)) (pc := 39) hx hb hts ii_X6_inverse_X6 hown hK.1 hP 0 rfl rfl 7 (by decide) ⟨rfl, rfl, rfl⟩ mm_X6_inverse_3 rfl dX6_inverse_39 ?_
        refine lv_goto (tgt := 49) (pc := 42) hx hb dX6_inverse_42 (by decide) ?_
        exact J_9 _ _ _ _ (if_pos c_7) hP hD hS (lv_sub hl [0, 1, 2] rfl)
    · refine lv_aload_n (pc := 22) hx hb dX6_inverse_22 rfl (lv_at hl 0 rfl) ?_
      refine lv_ldc (v := (-10000002)) (pc := 23) hx hb hown (hts _ mm_X6_inverse_2) dX6_inverse_23 ?_
      obtain ⟨r10, er10⟩ : ∃ z : Int32 × (Mdl), fX6_refuses M (-10000002) = z := ⟨_, rfl⟩
      have hr10 := kX6_refuses l E a M (-10000002) hv_bad
      rw [er10] at hr10
      refine gcVi (pc := 25) (w1 := [(a 0, .inr (6, [.ref (a 1), .ref (a 2), .ref (a 3), .int (r10.2.1 0), .ref (a 4), .ref (a 5), .int (r10.2.1 1), .int (r10.2.1 2), .int (r10.2.1 3), .ref (a 6), .ref (a 7), .int (r10.2.1 4), .int (r10.2.1 5), .int (r10.2.1 6), .long r10.2.2.1])), (a 1, .inl (eJ E, 68, .inr (.inl r10.2.2.2.1))), (a 2, .inl (eJ E, 68, .inr (.inl r10.2.2.2.2.1))), (a 3, .inl (eJ E, 340, .inr (.inl r10.2.2.2.2.2.1))), (a 4, .inl (eI E, 3, .inl r10.2.2.2.2.2.2.1)), (a 5, .inl (eI E, 120, .inl r10.2.2.2.2.2.2.2.1)), (a 6, .inl (eI E, 60, .inl r10.2.2.2.2.2.2.2.2.1)), (a 7, .inl (eI E, 120, .inl r10.2.2.2.2.2.2.2.2.2))]) (pre := []) (post := []) (As := [.int (-10000002)]) (rest := []) (q0 := 0) ⟨hx, hb, hml, hown, hts⟩ hr10 (cwV 1 hts gX6_inverse_X6_refuses rfl rfl rfl qvX6_refuses ⟨Nat.le_of_ble_eq_true rfl, Nat.le_of_ble_eq_true rfl⟩) hK hP hD hS hA rfl rfl rfl rfl rfl hl.1 rfl (Nat.le_of_ble_eq_true rfl) dX6_inverse_25 ⟨Nat.zero_le _, Nat.zero_le _⟩ (fun H locs hP hD hS => ?_)
      subst er10
      subst er4
      subst er1
      have hfn : fX6_inverse M v w = _ := (if_neg c_2).trans (if_pos c_5)
      rw [hfn] at hQ
      exact hQ _ _ _ _ _ rfl hP hD hS dX6_inverse_28

def fX6_bandOf (W : Nat → Int64) (b : Int32) (w : Int32) : Int32 :=
  if w = 1 then
    (W ((24 + b).toNatClampNeg)).toInt32
  else
    let x3 : Int32 := (if (W ((24 + b).toNatClampNeg)) = 0 then (-10000001) else (((W ((46 + b).toNatClampNeg)) / (W ((24 + b).toNatClampNeg))).toInt32))
    x3
abbrev rX6_bandOf : Room := { frames := 0, cells := 0, slots := 0, locals := 0 }
theorem mm_X6_bandOf_1 : Cond.fieldLink RX6 7 "GaugeBoundsModel" "now" "[J" ∈ wsX6_bandOf := List.mem_of_getElem? (i := 1) rfl
theorem mm_X6_bandOf_2 : Cond.constant RX6 57 (-10000001) ∈ wsX6_bandOf := List.mem_of_getElem? (i := 2) rfl
theorem ii_X6_bandOf_X6 : ∀ w ∈ wsX60, w ∈ wsX6_bandOf := fun _ h => List.mem_cons_of_mem _ (List.mem_append_right _ (h))
theorem qvX6_bandOf : yX6_bandOf.cls = RX6 ∧ yX6_bandOf.cls ≠ "java/lang/invoke/MethodHandle" ∧ yX6_bandOf.cls ≠ "java/lang/invoke/VarHandle" ∧ (parseMethodDescriptor yX6_bandOf.desc).map (fun d => d.parameters.length) = some 2 := by decide +kernel
set_option maxHeartbeats 4000000 in
set_option maxRecDepth 100000 in
theorem kX6_bandOf (l : Launch) (E : gEnv) (a : Nat → Nat) (M : Mdl) (b : Int32) (w : Int32) (hb0 : 0 ≤ b.toInt ∧ b.toInt ≤ 21) : gMi l E yX6_bandOf wsX6_bandOf rX6_bandOf [.ref (a 0), .int b, .int w] (wM E a M) (fX6_bandOf M.2.2.1 b w) (wM E a M) := by
  refine gMi_of (cc := cX6_bandOf) (maxL := 3) (ret := (some .int)) (by decide) rfl rfl (Nat.le_of_ble_eq_true rfl) ?_
  intro p e s m args below meth c A Q ls hB hQ
  obtain ⟨hx, hb, hml, hown, hts, hK, hP, hD, hA, hS, hl⟩ := hB
  have hown : s.vm.findClass RX6 = some m.cls := hown
  have hP : va_P E.1 vwCl [(a 0, .inr (6, [.ref (a 1), .ref (a 2), .ref (a 3), .int (M.1 0), .ref (a 4), .ref (a 5), .int (M.1 1), .int (M.1 2), .int (M.1 3), .ref (a 6), .ref (a 7), .int (M.1 4), .int (M.1 5), .int (M.1 6), .long M.2.1])), (a 1, .inl (eJ E, 68, .inr (.inl M.2.2.1))), (a 2, .inl (eJ E, 68, .inr (.inl M.2.2.2.1))), (a 3, .inl (eJ E, 340, .inr (.inl M.2.2.2.2.1))), (a 4, .inl (eI E, 3, .inl M.2.2.2.2.2.1)), (a 5, .inl (eI E, 120, .inl M.2.2.2.2.2.2.1)), (a 6, .inl (eI E, 60, .inl M.2.2.2.2.2.2.2.1)), (a 7, .inl (eI E, 120, .inl M.2.2.2.2.2.2.2.2))] s.heap := hP
  have hD : va_D A [(a 0, .inr (6, [.ref (a 1), .ref (a 2), .ref (a 3), .int (M.1 0), .ref (a 4), .ref (a 5), .int (M.1 1), .int (M.1 2), .int (M.1 3), .ref (a 6), .ref (a 7), .int (M.1 4), .int (M.1 5), .int (M.1 6), .long M.2.1])), (a 1, .inl (eJ E, 68, .inr (.inl M.2.2.1))), (a 2, .inl (eJ E, 68, .inr (.inl M.2.2.2.1))), (a 3, .inl (eJ E, 340, .inr (.inl M.2.2.2.2.1))), (a 4, .inl (eI E, 3, .inl M.2.2.2.2.2.1)), (a 5, .inl (eI E, 120, .inl M.2.2.2.2.2.2.1)), (a 6, .inl (eI E, 60, .inl M.2.2.2.2.2.2.2.1)), (a 7, .inl (eI E, 120, .inl M.2.2.2.2.2.2.2.2))] := hD
  have hl : lv_has ls 3 [(0, .ref (a 0)), (1, .int b), (2, .int w)] := hl
  refine lv_iload_n (pc := 0) hx hb dX6_bandOf_0 rfl (lv_at hl 2 rfl) ?_
  refine lv_iconst (v := 1) (pc := 1) hx hb dX6_bandOf_1 rfl ?_
  refine lv_icmp_ne (tgt := 16) (pc := 2) hx hb dX6_bandOf_2 (by decide) (fun c_1 => ?_) (fun c_1 => ?_)
  · refine lv_aload_n (pc := 16) hx hb dX6_bandOf_16 rfl (lv_at hl 0 rfl) ?_
    refine g_get (v := .ref (a 1)) (pc := 17) hx hb hts ii_X6_bandOf_X6 hown hK.1 hP 0 rfl rfl 0 (by decide) ⟨rfl, rfl, rfl⟩ mm_X6_bandOf_1 rfl dX6_bandOf_17 ?_
    refine lv_bipush (v := 24) (pc := 20) hx hb dX6_bandOf_20 rfl ?_
    refine lv_iload_n (pc := 22) hx hb dX6_bandOf_22 rfl (lv_at hl 1 rfl) ?_
    refine lv_iadd (pc := 23) hx hb dX6_bandOf_23 ?_
    refine g_lald (j := (24 + b).toNatClampNeg) (v := (M.2.2.1 ((24 + b).toNatClampNeg))) (pc := 24) hx hb hK.1 hP 1 1 rfl rfl (ix_o1 24 (by decide) hb0.1 (by simp only [Int32.reduceToInt]; omega) (by decide)) rfl rfl dX6_bandOf_24 ?_
    refine lv_lconst (v := 0) (pc := 25) hx hb dX6_bandOf_25 rfl ?_
    have J_4 : ∀ (H : Heap) (locs : List Loc) (ls : Array Slot) (x3 : Int32), (if (M.2.2.1 ((24 + b).toNatClampNeg)) = 0 then (-10000001) else (((M.2.2.1 ((46 + b).toNatClampNeg)) / (M.2.2.1 ((24 + b).toNatClampNeg))).toInt32)) = x3 → va_P E.1 vwCl [(a 0, .inr (6, [.ref (a 1), .ref (a 2), .ref (a 3), .int (M.1 0), .ref (a 4), .ref (a 5), .int (M.1 1), .int (M.1 2), .int (M.1 3), .ref (a 6), .ref (a 7), .int (M.1 4), .int (M.1 5), .int (M.1 6), .long M.2.1])), (a 1, .inl (eJ E, 68, .inr (.inl M.2.2.1))), (a 2, .inl (eJ E, 68, .inr (.inl M.2.2.2.1))), (a 3, .inl (eJ E, 340, .inr (.inl M.2.2.2.2.1))), (a 4, .inl (eI E, 3, .inl M.2.2.2.2.2.1)), (a 5, .inl (eI E, 120, .inl M.2.2.2.2.2.2.1)), (a 6, .inl (eI E, 60, .inl M.2.2.2.2.2.2.2.1)), (a 7, .inl (eI E, 120, .inl M.2.2.2.2.2.2.2.2))] H → va_D A [(a 0, .inr (6, [.ref (a 1), .ref (a 2), .ref (a 3), .int (M.1 0), .ref (a 4), .ref (a 5), .int (M.1 1), .int (M.1 2), .int (M.1 3), .ref (a 6), .ref (a 7), .int (M.1 4), .int (M.1 5), .int (M.1 6), .long M.2.1])), (a 1, .inl (eJ E, 68, .inr (.inl M.2.2.1))), (a 2, .inl (eJ E, 68, .inr (.inl M.2.2.2.1))), (a 3, .inl (eJ E, 340, .inr (.inl M.2.2.2.2.1))), (a 4, .inl (eI E, 3, .inl M.2.2.2.2.2.1)), (a 5, .inl (eI E, 120, .inl M.2.2.2.2.2.2.1)), (a 6, .inl (eI E, 60, .inl M.2.2.2.2.2.2.2.1)), (a 7, .inl (eI E, 120, .inl M.2.2.2.2.2.2.2.2))] → va_S A s.heap H locs → lv_has ls 3 [(0, .ref (a 0)), (1, .int b), (2, .int w)] → W p l e rX6_bandOf s m args below meth c H locs 0 0 Q (F0 m 55 ls [.int x3]) := by
      intro H locs ls x3 ex3 hP hD hS hl
      subst ex3
      have hfn : fX6_bandOf M.2.2.1 b w = _ := if_neg c_1
      rw [hfn] at hQ
      exact hQ _ _ _ _ _ rfl hP hD hS dX6_bandOf_55
    refine gl_ne (tgt := 35) (pc := 26) hx hb dX6_bandOf_26 dX6_bandOf_27 rfl (fun c_2 => ?_) (fun c_2 => ?_)
    · refine lv_aload_n (pc := 35) hx hb dX6_bandOf_35 rfl (lv_at hl 0 rfl) ?_
      refine g_get (v := .ref (a 1)) (pc := 36) hx hb hts ii_X6_bandOf_X6 hown hK.1 hP 0 rfl rfl 0 (by decide) ⟨rfl, rfl, rfl⟩ mm_X6_bandOf_1 rfl dX6_bandOf_36 ?_
      refine lv_bipush (v := 46) (pc := 39) hx hb dX6_bandOf_39 rfl ?_
      refine lv_iload_n (pc := 41) hx hb dX6_bandOf_41 rfl (lv_at hl 1 rfl) ?_
      refine lv_iadd (pc := 42) hx hb dX6_bandOf_42 ?_
      refine g_lald (j := (46 + b).toNatClampNeg) (v := (M.2.2.1 ((46 + b).toNatClampNeg))) (pc := 43) hx hb hK.1 hP 1 1 rfl rfl (ix_o1 46 (by decide) hb0.1 (by simp only [Int32.reduceToInt]; omega) (by decide)) rfl rfl dX6_bandOf_43 ?_
      refine lv_aload_n (pc := 44) hx hb dX6_bandOf_44 rfl (lv_at hl 0 rfl) ?_
      refine g_get (v := .ref (a 1)) (pc := 45) hx hb hts ii_X6_bandOf_X6 hown hK.1 hP 0 rfl rfl 0 (by decide) ⟨rfl, rfl, rfl⟩ mm_X6_bandOf_1 rfl dX6_bandOf_45 ?_
      refine lv_bipush (v := 24) (pc := 48) hx hb dX6_bandOf_48 rfl ?_
      refine lv_iload_n (pc := 50) hx hb dX6_bandOf_50 rfl (lv_at hl 1 rfl) ?_
      refine lv_iadd (pc := 51) hx hb dX6_bandOf_51 ?_
      refine g_lald (j := (24 + b).toNatClampNeg) (v := (M.2.2.1 ((24 + b).toNatClampNeg))) (pc := 52) hx hb hK.1 hP 1 1 rfl rfl (ix_o1 24 (by decide) hb0.1 (by simp only [Int32.reduceToInt]; omega) (by decide)) rfl rfl dX6_bandOf_52 ?_
      refine lv_ldiv (pc := 53) hx hb dX6_bandOf_53 c_2 ?_
      refine lv_l2i (v := ((M.2.2.1 ((46 + b).toNatClampNeg)) / (M.2.2.1 ((24 + b).toNatClampNeg))).toInt32) (pc := 54) hx hb dX6_bandOf_54 rfl ?_
      exact J_4 _ _ _ _ (if_neg c_2) hP hD hS (lv_sub hl [0, 1, 2] rfl)
    · refine lv_ldc (v := (-10000001)) (pc := 30) hx hb hown (hts _ mm_X6_bandOf_2) dX6_bandOf_30 ?_
      refine lv_goto (tgt := 55) (pc := 32) hx hb dX6_bandOf_32 (by decide) ?_
      exact J_4 _ _ _ _ (if_pos c_2) hP hD hS (lv_sub hl [0, 1, 2] rfl)
  · refine lv_aload_n (pc := 5) hx hb dX6_bandOf_5 rfl (lv_at hl 0 rfl) ?_
    refine g_get (v := .ref (a 1)) (pc := 6) hx hb hts ii_X6_bandOf_X6 hown hK.1 hP 0 rfl rfl 0 (by decide) ⟨rfl, rfl, rfl⟩ mm_X6_bandOf_1 rfl dX6_bandOf_6 ?_
    refine lv_bipush (v := 24) (pc := 9) hx hb dX6_bandOf_9 rfl ?_
    refine lv_iload_n (pc := 11) hx hb dX6_bandOf_11 rfl (lv_at hl 1 rfl) ?_
    refine lv_iadd (pc := 12) hx hb dX6_bandOf_12 ?_
    refine g_lald (j := (24 + b).toNatClampNeg) (v := (M.2.2.1 ((24 + b).toNatClampNeg))) (pc := 13) hx hb hK.1 hP 1 1 rfl rfl (ix_o1 24 (by decide) hb0.1 (by simp only [Int32.reduceToInt]; omega) (by decide)) rfl rfl dX6_bandOf_13 ?_
    refine lv_l2i (v := (M.2.2.1 ((24 + b).toNatClampNeg)).toInt32) (pc := 14) hx hb dX6_bandOf_14 rfl ?_
    have hfn : fX6_bandOf M.2.2.1 b w = _ := if_pos c_1
    rw [hfn] at hQ
    exact hQ _ _ _ _ _ rfl hP hD hS dX6_bandOf_15

def fX6_band (M : Mdl) (sg : Int32) (tn : Int32) (w : Int32) : Int32 × (Mdl) :=
  let r1 : Int32 := fX6_in sg.toInt64 0 1
  let x3 : Int32 := (if r1 = 0 then 0 else (let r3 : Int32 := fX6_in tn.toInt64 0 10; (if r3 = 0 then 0 else (let r5 : Int32 := fX6_in w.toInt64 0 1; (if r5 = 0 then 0 else 1)))))
  if x3 = 0 then
    let r6 : Int32 × (Mdl) := fX6_refuses M (-10000002)
    r6
  else
    let r7 : Int32 := fX6_bandOf M.2.2.1 ((11 * sg) + tn) w
    (r7, M)
abbrev rX6_band : Room := { frames := 1, cells := 0, slots := 0, locals := 25 }
theorem mm_X6_band_1 : Cond.constantLong RX6 40 (10) ∈ wsX6_band := List.mem_of_getElem? (i := 1) rfl
theorem mm_X6_band_2 : Cond.constant RX6 44 (-10000002) ∈ wsX6_band := List.mem_of_getElem? (i := 2) rfl
theorem qvX6_band : yX6_band.cls = RX6 ∧ yX6_band.cls ≠ "java/lang/invoke/MethodHandle" ∧ yX6_band.cls ≠ "java/lang/invoke/VarHandle" ∧ (parseMethodDescriptor yX6_band.desc).map (fun d => d.parameters.length) = some 3 := by decide +kernel
set_option maxHeartbeats 4000000 in
set_option maxRecDepth 100000 in
theorem kX6_band (l : Launch) (E : gEnv) (a : Nat → Nat) (M : Mdl) (sg : Int32) (tn : Int32) (w : Int32) : gMi l E yX6_band wsX6_band rX6_band [.ref (a 0), .int sg, .int tn, .int w] (wM E a M) (fX6_band M sg tn w).1 (wM E a ((fX6_band M sg tn w).2)) := by
  refine gMi_of (cc := cX6_band) (maxL := 5) (ret := (some .int)) (by decide) rfl rfl (Nat.le_of_ble_eq_true rfl) ?_
  intro p e s m args below meth c A Q ls hB hQ
  obtain ⟨hx, hb, hml, hown, hts, hK, hP, hD, hA, hS, hl⟩ := hB
  have hown : s.vm.findClass RX6 = some m.cls := hown
  have hP : va_P E.1 vwCl [(a 0, .inr (6, [.ref (a 1), .ref (a 2), .ref (a 3), .int (M.1 0), .ref (a 4), .ref (a 5), .int (M.1 1), .int (M.1 2), .int (M.1 3), .ref (a 6), .ref (a 7), .int (M.1 4), .int (M.1 5), .int (M.1 6), .long M.2.1])), (a 1, .inl (eJ E, 68, .inr (.inl M.2.2.1))), (a 2, .inl (eJ E, 68, .inr (.inl M.2.2.2.1))), (a 3, .inl (eJ E, 340, .inr (.inl M.2.2.2.2.1))), (a 4, .inl (eI E, 3, .inl M.2.2.2.2.2.1)), (a 5, .inl (eI E, 120, .inl M.2.2.2.2.2.2.1)), (a 6, .inl (eI E, 60, .inl M.2.2.2.2.2.2.2.1)), (a 7, .inl (eI E, 120, .inl M.2.2.2.2.2.2.2.2))] s.heap := hP
  have hD : va_D A [(a 0, .inr (6, [.ref (a 1), .ref (a 2), .ref (a 3), .int (M.1 0), .ref (a 4), .ref (a 5), .int (M.1 1), .int (M.1 2), .int (M.1 3), .ref (a 6), .ref (a 7), .int (M.1 4), .int (M.1 5), .int (M.1 6), .long M.2.1])), (a 1, .inl (eJ E, 68, .inr (.inl M.2.2.1))), (a 2, .inl (eJ E, 68, .inr (.inl M.2.2.2.1))), (a 3, .inl (eJ E, 340, .inr (.inl M.2.2.2.2.1))), (a 4, .inl (eI E, 3, .inl M.2.2.2.2.2.1)), (a 5, .inl (eI E, 120, .inl M.2.2.2.2.2.2.1)), (a 6, .inl (eI E, 60, .inl M.2.2.2.2.2.2.2.1)), (a 7, .inl (eI E, 120, .inl M.2.2.2.2.2.2.2.2))] := hD
  have hl : lv_has ls 5 [(0, .ref (a 0)), (1, .int sg), (2, .int tn), (3, .int w)] := hl
  refine lv_iload_n (pc := 0) hx hb dX6_band_0 rfl (lv_at hl 1 rfl) ?_
  refine lv_i2l (v := sg.toInt64) (pc := 1) hx hb dX6_band_1 rfl ?_
  refine lv_lconst (v := 0) (pc := 2) hx hb dX6_band_2 rfl ?_
  refine lv_lconst (v := 1) (pc := 3) hx hb dX6_band_3 rfl ?_
  obtain ⟨r1, er1⟩ : ∃ z : Int32, fX6_in sg.toInt64 0 1 = z := ⟨_, rfl⟩
  have hr1 := kX6_in l E sg.toInt64 0 1
  rw [er1] at hr1
  refine gcSi (pc := 4) (As := [.long sg.toInt64, .long 0, .long 1]) (rest := []) ⟨hx, hb, hml, hown, hts⟩ hr1 (cwS 3 hts gX6_band_X6_in rfl rfl rfl qsX6_in ⟨Nat.le_of_ble_eq_true rfl, Nat.le_of_ble_eq_true rfl⟩) hK hP hD hS hA rfl hl.1 rfl (Nat.le_of_ble_eq_true rfl) dX6_band_4 ⟨Nat.zero_le _, Nat.zero_le _⟩ (fun H locs hP hD hS => ?_)
  have J_4 : ∀ (H : Heap) (locs : List Loc) (ls : Array Slot) (x3 : Int32), (if r1 = 0 then 0 else (let r3 : Int32 := fX6_in tn.toInt64 0 10; (if r3 = 0 then 0 else (let r5 : Int32 := fX6_in w.toInt64 0 1; (if r5 = 0 then 0 else 1))))) = x3 → va_P E.1 vwCl [(a 0, .inr (6, [.ref (a 1), .ref (a 2), .ref (a 3), .int (M.1 0), .ref (a 4), .ref (a 5), .int (M.1 1), .int (M.1 2), .int (M.1 3), .ref (a 6), .ref (a 7), .int (M.1 4), .int (M.1 5), .int (M.1 6), .long M.2.1])), (a 1, .inl (eJ E, 68, .inr (.inl M.2.2.1))), (a 2, .inl (eJ E, 68, .inr (.inl M.2.2.2.1))), (a 3, .inl (eJ E, 340, .inr (.inl M.2.2.2.2.1))), (a 4, .inl (eI E, 3, .inl M.2.2.2.2.2.1)), (a 5, .inl (eI E, 120, .inl M.2.2.2.2.2.2.1)), (a 6, .inl (eI E, 60, .inl M.2.2.2.2.2.2.2.1)), (a 7, .inl (eI E, 120, .inl M.2.2.2.2.2.2.2.2))] H → va_D A [(a 0, .inr (6, [.ref (a 1), .ref (a 2), .ref (a 3), .int (M.1 0), .ref (a 4), .ref (a 5), .int (M.1 1), .int (M.1 2), .int (M.1 3), .ref (a 6), .ref (a 7), .int (M.1 4), .int (M.1 5), .int (M.1 6), .long M.2.1])), (a 1, .inl (eJ E, 68, .inr (.inl M.2.2.1))), (a 2, .inl (eJ E, 68, .inr (.inl M.2.2.2.1))), (a 3, .inl (eJ E, 340, .inr (.inl M.2.2.2.2.1))), (a 4, .inl (eI E, 3, .inl M.2.2.2.2.2.1)), (a 5, .inl (eI E, 120, .inl M.2.2.2.2.2.2.1)), (a 6, .inl (eI E, 60, .inl M.2.2.2.2.2.2.2.1)), (a 7, .inl (eI E, 120, .inl M.2.2.2.2.2.2.2.2))] → va_S A s.heap H locs → lv_has ls 5 [(0, .ref (a 0)), (1, .int sg), (2, .int tn), (3, .int w)] → W p l e rX6_band s m args below meth c H locs 0 0 Q (F0 m 37 ls [.int x3]) := by
    intro H locs ls x3 ex3 hP hD hS hl
    refine lv_istore (lv' := [(4, .int x3), (0, .ref (a 0)), (1, .int sg), (2, .int tn), (3, .int w)]) (pc := 37) hx hb dX6_band_37 hl (by decide) rfl (fun ls hl => ?_)
    refine lv_iload (pc := 39) hx hb dX6_band_39 (lv_at hl 0 rfl) ?_
    refine lv_if_eq (tgt := 58) (pc := 41) hx hb dX6_band_41 (by decide) (fun c_5 => ?_) (fun c_5 => ?_)
    · refine lv_aload_n (pc := 58) hx hb dX6_band_58 rfl (lv_at hl 1 rfl) ?_
      refine lv_ldc (v := (-10000002)) (pc := 59) hx hb hown (hts _ mm_X6_band_2) dX6_band_59 ?_
      obtain ⟨r6, er6⟩ : ∃ z : Int32 × (Mdl), fX6_refuses M (-10000002) = z := ⟨_, rfl⟩
      have hr6 := kX6_refuses l E a M (-10000002) hv_bad
      rw [er6] at hr6
      refine gcVi (pc := 61) (w1 := [(a 0, .inr (6, [.ref (a 1), .ref (a 2), .ref (a 3), .int (r6.2.1 0), .ref (a 4), .ref (a 5), .int (r6.2.1 1), .int (r6.2.1 2), .int (r6.2.1 3), .ref (a 6), .ref (a 7), .int (r6.2.1 4), .int (r6.2.1 5), .int (r6.2.1 6), .long r6.2.2.1])), (a 1, .inl (eJ E, 68, .inr (.inl r6.2.2.2.1))), (a 2, .inl (eJ E, 68, .inr (.inl r6.2.2.2.2.1))), (a 3, .inl (eJ E, 340, .inr (.inl r6.2.2.2.2.2.1))), (a 4, .inl (eI E, 3, .inl r6.2.2.2.2.2.2.1)), (a 5, .inl (eI E, 120, .inl r6.2.2.2.2.2.2.2.1)), (a 6, .inl (eI E, 60, .inl r6.2.2.2.2.2.2.2.2.1)), (a 7, .inl (eI E, 120, .inl r6.2.2.2.2.2.2.2.2.2))]) (pre := []) (post := []) (As := [.int (-10000002)]) (rest := []) (q0 := 0) ⟨hx, hb, hml, hown, hts⟩ hr6 (cwV 1 hts gX6_band_X6_refuses rfl rfl rfl qvX6_refuses ⟨Nat.le_of_ble_eq_true rfl, Nat.le_of_ble_eq_true rfl⟩) hK hP hD hS hA rfl rfl rfl rfl rfl hl.1 rfl (Nat.le_of_ble_eq_true rfl) dX6_band_61 ⟨Nat.zero_le _, Nat.zero_le _⟩ (fun H locs hP hD hS => ?_)
      subst er6
      subst ex3
      subst er1
      have hfn : fX6_band M sg tn w = _ := if_pos c_5
      rw [hfn] at hQ
      exact hQ _ _ _ _ _ rfl hP hD hS dX6_band_64
    · refine lv_aload_n (pc := 44) hx hb dX6_band_44 rfl (lv_at hl 1 rfl) ?_
      refine lv_bipush (v := 11) (pc := 45) hx hb dX6_band_45 rfl ?_
      refine lv_iload_n (pc := 47) hx hb dX6_band_47 rfl (lv_at hl 2 rfl) ?_
      refine lv_imul (pc := 48) hx hb dX6_band_48 ?_
      refine lv_iload_n (pc := 49) hx hb dX6_band_49 rfl (lv_at hl 3 rfl) ?_
      refine lv_iadd (pc := 50) hx hb dX6_band_50 ?_
      refine lv_iload_n (pc := 51) hx hb dX6_band_51 rfl (lv_at hl 4 rfl) ?_
      obtain ⟨r7, er7⟩ : ∃ z : Int32, fX6_bandOf M.2.2.1 ((11 * sg) + tn) w = z := ⟨_, rfl⟩
      have hr7 := kX6_bandOf l E a M ((11 * sg) + tn) w (bd_in (by subst er1; exact ex3) c_5)
      rw [er7] at hr7
      refine gcVi (pc := 52) (w1 := [(a 0, .inr (6, [.ref (a 1), .ref (a 2), .ref (a 3), .int (M.1 0), .ref (a 4), .ref (a 5), .int (M.1 1), .int (M.1 2), .int (M.1 3), .ref (a 6), .ref (a 7), .int (M.1 4), .int (M.1 5), .int (M.1 6), .long M.2.1])), (a 1, .inl (eJ E, 68, .inr (.inl M.2.2.1))), (a 2, .inl (eJ E, 68, .inr (.inl M.2.2.2.1))), (a 3, .inl (eJ E, 340, .inr (.inl M.2.2.2.2.1))), (a 4, .inl (eI E, 3, .inl M.2.2.2.2.2.1)), (a 5, .inl (eI E, 120, .inl M.2.2.2.2.2.2.1)), (a 6, .inl (eI E, 60, .inl M.2.2.2.2.2.2.2.1)), (a 7, .inl (eI E, 120, .inl M.2.2.2.2.2.2.2.2))]) (pre := []) (post := []) (As := [.int ((11 * sg) + tn), .int w]) (rest := []) (q0 := 0) ⟨hx, hb, hml, hown, hts⟩ hr7 (cwV 2 hts gX6_band_X6_bandOf rfl rfl rfl qvX6_bandOf ⟨Nat.le_of_ble_eq_true rfl, Nat.le_of_ble_eq_true rfl⟩) hK hP hD hS hA rfl rfl rfl rfl rfl hl.1 rfl (Nat.le_of_ble_eq_true rfl) dX6_band_52 ⟨Nat.zero_le _, Nat.zero_le _⟩ (fun H locs hP hD hS => ?_)
      refine lv_goto (tgt := 64) (pc := 55) hx hb dX6_band_55 (by decide) ?_
      subst er7
      subst ex3
      subst er1
      have hfn : fX6_band M sg tn w = _ := if_neg c_5
      rw [hfn] at hQ
      exact hQ _ _ _ _ _ rfl hP hD hS dX6_band_64
  refine lv_if_eq (tgt := 36) (pc := 7) hx hb dX6_band_7 (by decide) (fun c_2 => ?_) (fun c_2 => ?_)
  · refine lv_iconst (v := 0) (pc := 36) hx hb dX6_band_36 rfl ?_
    exact J_4 _ _ _ _ (if_pos c_2) hP hD hS (lv_sub hl [0, 1, 2, 3] rfl)
  · refine lv_iload_n (pc := 10) hx hb dX6_band_10 rfl (lv_at hl 2 rfl) ?_
    refine lv_i2l (v := tn.toInt64) (pc := 11) hx hb dX6_band_11 rfl ?_
    refine lv_lconst (v := 0) (pc := 12) hx hb dX6_band_12 rfl ?_
    refine lv_ldc2 (v := (10)) (pc := 13) hx hb hown (hts _ mm_X6_band_1) dX6_band_13 ?_
    obtain ⟨r3, er3⟩ : ∃ z : Int32, fX6_in tn.toInt64 0 10 = z := ⟨_, rfl⟩
    have hr3 := kX6_in l E tn.toInt64 0 10
    rw [er3] at hr3
    refine gcSi (pc := 16) (As := [.long tn.toInt64, .long 0, .long 10]) (rest := []) ⟨hx, hb, hml, hown, hts⟩ hr3 (cwS 3 hts gX6_band_X6_in rfl rfl rfl qsX6_in ⟨Nat.le_of_ble_eq_true rfl, Nat.le_of_ble_eq_true rfl⟩) hK hP hD hS hA rfl hl.1 rfl (Nat.le_of_ble_eq_true rfl) dX6_band_16 ⟨Nat.zero_le _, Nat.zero_le _⟩ (fun H locs hP hD hS => ?_)
    refine lv_if_eq (tgt := 36) (pc := 19) hx hb dX6_band_19 (by decide) (fun c_4 => ?_) (fun c_4 => ?_)
    · refine lv_iconst (v := 0) (pc := 36) hx hb dX6_band_36 rfl ?_
      subst er3
      exact J_4 _ _ _ _ ((if_neg c_2).trans (if_pos c_4)) hP hD hS (lv_sub hl [0, 1, 2, 3] rfl)
    · refine lv_iload_n (pc := 22) hx hb dX6_band_22 rfl (lv_at hl 3 rfl) ?_
      refine lv_i2l (v := w.toInt64) (pc := 23) hx hb dX6_band_23 rfl ?_
      refine lv_lconst (v := 0) (pc := 24) hx hb dX6_band_24 rfl ?_
      refine lv_lconst (v := 1) (pc := 25) hx hb dX6_band_25 rfl ?_
      obtain ⟨r5, er5⟩ : ∃ z : Int32, fX6_in w.toInt64 0 1 = z := ⟨_, rfl⟩
      have hr5 := kX6_in l E w.toInt64 0 1
      rw [er5] at hr5
      refine gcSi (pc := 26) (As := [.long w.toInt64, .long 0, .long 1]) (rest := []) ⟨hx, hb, hml, hown, hts⟩ hr5 (cwS 3 hts gX6_band_X6_in rfl rfl rfl qsX6_in ⟨Nat.le_of_ble_eq_true rfl, Nat.le_of_ble_eq_true rfl⟩) hK hP hD hS hA rfl hl.1 rfl (Nat.le_of_ble_eq_true rfl) dX6_band_26 ⟨Nat.zero_le _, Nat.zero_le _⟩ (fun H locs hP hD hS => ?_)
      refine lv_if_eq (tgt := 36) (pc := 29) hx hb dX6_band_29 (by decide) (fun c_6 => ?_) (fun c_6 => ?_)
      · refine lv_iconst (v := 0) (pc := 36) hx hb dX6_band_36 rfl ?_
        subst er5
        subst er3
        exact J_4 _ _ _ _ ((if_neg c_2).trans ((if_neg c_4).trans (if_pos c_6))) hP hD hS (lv_sub hl [0, 1, 2, 3] rfl)
      · refine lv_iconst (v := 1) (pc := 32) hx hb dX6_band_32 rfl ?_
        refine lv_goto (tgt := 37) (pc := 33) hx hb dX6_band_33 (by decide) ?_
        subst er5
        subst er3
        exact J_4 _ _ _ _ ((if_neg c_2).trans ((if_neg c_4).trans (if_neg c_6))) hP hD hS (lv_sub hl [0, 1, 2, 3] rfl)

def lpBands (W : Nat → Int64) : Nat → Int32
  | 0 => 0
  | i + 1 => lpBands W i + (if W (24 + i) ≤ 0 then 0 else 1)

def fX6_bands (W : Nat → Int64) : Int32 :=
  lpBands W 22
abbrev rX6_bands : Room := { frames := 0, cells := 0, slots := 0, locals := 0 }
theorem mm_X6_bands_1 : Cond.fieldLink RX6 7 "GaugeBoundsModel" "now" "[J" ∈ wsX6_bands := List.mem_of_getElem? (i := 1) rfl
theorem ii_X6_bands_X6 : ∀ w ∈ wsX60, w ∈ wsX6_bands := fun _ h => List.mem_cons_of_mem _ (List.mem_append_right _ (h))
theorem qvX6_bands : yX6_bands.cls = RX6 ∧ yX6_bands.cls ≠ "java/lang/invoke/MethodHandle" ∧ yX6_bands.cls ≠ "java/lang/invoke/VarHandle" ∧ (parseMethodDescriptor yX6_bands.desc).map (fun d => d.parameters.length) = some 0 := by decide +kernel
set_option maxHeartbeats 4000000 in
set_option maxRecDepth 100000 in
theorem kX6_bands (l : Launch) (E : gEnv) (a : Nat → Nat) (M : Mdl) : gMi l E yX6_bands wsX6_bands rX6_bands [.ref (a 0)] (wM E a M) (fX6_bands M.2.2.1) (wM E a M) := by
  refine gMi_of (cc := cX6_bands) (maxL := 3) (ret := (some .int)) (by decide) rfl rfl (Nat.le_of_ble_eq_true rfl) ?_
  intro p e s m args below meth c A Q ls hB hQ
  obtain ⟨hx, hb, hml, hown, hts, hK, hP, hD, hA, hS, hl⟩ := hB
  have hown : s.vm.findClass RX6 = some m.cls := hown
  have hP : va_P E.1 vwCl [(a 0, .inr (6, [.ref (a 1), .ref (a 2), .ref (a 3), .int (M.1 0), .ref (a 4), .ref (a 5), .int (M.1 1), .int (M.1 2), .int (M.1 3), .ref (a 6), .ref (a 7), .int (M.1 4), .int (M.1 5), .int (M.1 6), .long M.2.1])), (a 1, .inl (eJ E, 68, .inr (.inl M.2.2.1))), (a 2, .inl (eJ E, 68, .inr (.inl M.2.2.2.1))), (a 3, .inl (eJ E, 340, .inr (.inl M.2.2.2.2.1))), (a 4, .inl (eI E, 3, .inl M.2.2.2.2.2.1)), (a 5, .inl (eI E, 120, .inl M.2.2.2.2.2.2.1)), (a 6, .inl (eI E, 60, .inl M.2.2.2.2.2.2.2.1)), (a 7, .inl (eI E, 120, .inl M.2.2.2.2.2.2.2.2))] s.heap := hP
  have hD : va_D A [(a 0, .inr (6, [.ref (a 1), .ref (a 2), .ref (a 3), .int (M.1 0), .ref (a 4), .ref (a 5), .int (M.1 1), .int (M.1 2), .int (M.1 3), .ref (a 6), .ref (a 7), .int (M.1 4), .int (M.1 5), .int (M.1 6), .long M.2.1])), (a 1, .inl (eJ E, 68, .inr (.inl M.2.2.1))), (a 2, .inl (eJ E, 68, .inr (.inl M.2.2.2.1))), (a 3, .inl (eJ E, 340, .inr (.inl M.2.2.2.2.1))), (a 4, .inl (eI E, 3, .inl M.2.2.2.2.2.1)), (a 5, .inl (eI E, 120, .inl M.2.2.2.2.2.2.1)), (a 6, .inl (eI E, 60, .inl M.2.2.2.2.2.2.2.1)), (a 7, .inl (eI E, 120, .inl M.2.2.2.2.2.2.2.2))] := hD
  have hl : lv_has ls 3 [(0, .ref (a 0))] := hl
  refine lv_iconst (v := 0) (pc := 0) hx hb dX6_bands_0 rfl ?_
  refine lv_istore_n (lv' := [(1, .int 0), (0, .ref (a 0))]) (pc := 1) hx hb dX6_bands_1 rfl hl (by decide) rfl (fun ls hl => ?_)
  refine lv_iconst (v := 0) (pc := 2) hx hb dX6_bands_2 rfl ?_
  refine lv_istore_n (lv' := [(2, .int 0), (1, .int 0), (0, .ref (a 0))]) (pc := 3) hx hb dX6_bands_3 rfl hl (by decide) rfl (fun ls hl => ?_)
  have loop4 : ∀ (n2 i1 : Nat), i1 + n2 = 22 → ∀ (H : Heap) (locs : List Loc) (ls : Array Slot), va_P E.1 vwCl [(a 0, .inr (6, [.ref (a 1), .ref (a 2), .ref (a 3), .int (M.1 0), .ref (a 4), .ref (a 5), .int (M.1 1), .int (M.1 2), .int (M.1 3), .ref (a 6), .ref (a 7), .int (M.1 4), .int (M.1 5), .int (M.1 6), .long M.2.1])), (a 1, .inl (eJ E, 68, .inr (.inl M.2.2.1))), (a 2, .inl (eJ E, 68, .inr (.inl M.2.2.2.1))), (a 3, .inl (eJ E, 340, .inr (.inl M.2.2.2.2.1))), (a 4, .inl (eI E, 3, .inl M.2.2.2.2.2.1)), (a 5, .inl (eI E, 120, .inl M.2.2.2.2.2.2.1)), (a 6, .inl (eI E, 60, .inl M.2.2.2.2.2.2.2.1)), (a 7, .inl (eI E, 120, .inl M.2.2.2.2.2.2.2.2))] H → va_D A [(a 0, .inr (6, [.ref (a 1), .ref (a 2), .ref (a 3), .int (M.1 0), .ref (a 4), .ref (a 5), .int (M.1 1), .int (M.1 2), .int (M.1 3), .ref (a 6), .ref (a 7), .int (M.1 4), .int (M.1 5), .int (M.1 6), .long M.2.1])), (a 1, .inl (eJ E, 68, .inr (.inl M.2.2.1))), (a 2, .inl (eJ E, 68, .inr (.inl M.2.2.2.1))), (a 3, .inl (eJ E, 340, .inr (.inl M.2.2.2.2.1))), (a 4, .inl (eI E, 3, .inl M.2.2.2.2.2.1)), (a 5, .inl (eI E, 120, .inl M.2.2.2.2.2.2.1)), (a 6, .inl (eI E, 60, .inl M.2.2.2.2.2.2.2.1)), (a 7, .inl (eI E, 120, .inl M.2.2.2.2.2.2.2.2))] → va_S A s.heap H locs → lv_has ls 3 [(0, .ref (a 0)), (1, .int (lpBands M.2.2.1 i1)), (2, .int (nI i1))] → W p l e rX6_bands s m args below meth c H locs 0 0 Q (F0 m 4 ls []) := by
    intro n2
    induction n2 with
    | zero =>
      intro i1 hi H locs ls hP hD hS hl
      obtain rfl : i1 = 22 := by omega
      refine lv_iload_n (pc := 4) hx hb dX6_bands_4 rfl (lv_at hl 2 rfl) ?_
      refine lv_bipush (v := 22) (pc := 5) hx hb dX6_bands_5 rfl ?_
      refine lv_icmp_ge (tgt := 38) (pc := 7) hx hb dX6_bands_7 (by decide) (fun c_5 => ?_) (fun c_5 => ?_)
      rotate_left
      · exact absurd (nI_le (a := 22) (b := 22) (by decide) (by decide)) c_5
      refine lv_iload_n (pc := 38) hx hb dX6_bands_38 rfl (lv_at hl 1 rfl) ?_
      exact hQ _ _ _ _ _ rfl hP hD hS dX6_bands_39
    | succ n2 ih3 =>
      intro i1 hi H locs ls hP hD hS hl
      have hlt : i1 < 22 := by omega
      refine lv_iload_n (pc := 4) hx hb dX6_bands_4 rfl (lv_at hl 2 rfl) ?_
      refine lv_bipush (v := 22) (pc := 5) hx hb dX6_bands_5 rfl ?_
      refine lv_icmp_ge (tgt := 38) (pc := 7) hx hb dX6_bands_7 (by decide) (fun c_6 => ?_) (fun c_6 => ?_)
      · exact absurd c_6 (nI_ge (a := i1) (b := 22) (by omega) (by decide))
      refine lv_iload_n (pc := 10) hx hb dX6_bands_10 rfl (lv_at hl 1 rfl) ?_
      refine lv_aload_n (pc := 11) hx hb dX6_bands_11 rfl (lv_at hl 0 rfl) ?_
      refine g_get (v := .ref (a 1)) (pc := 12) hx hb hts ii_X6_bands_X6 hown hK.1 hP 0 rfl rfl 0 (by decide) ⟨rfl, rfl, rfl⟩ mm_X6_bands_1 rfl dX6_bands_12 ?_
      refine lv_bipush (v := 24) (pc := 15) hx hb dX6_bands_15 rfl ?_
      refine lv_iload_n (pc := 17) hx hb dX6_bands_17 rfl (lv_at hl 2 rfl) ?_
      refine lv_iadd (pc := 18) hx hb dX6_bands_18 ?_
      refine g_lald (j := 24 + i1) (v := (M.2.2.1 (24 + i1))) (pc := 19) hx hb hK.1 hP 1 1 rfl rfl (ix_off (a := 24) (by omega) (by decide)) (cl_off (a := 24) (by omega)) rfl dX6_bands_19 ?_
      refine lv_lconst (v := 0) (pc := 20) hx hb dX6_bands_20 rfl ?_
      have J_9 : ∀ (H : Heap) (locs : List Loc) (ls : Array Slot) (x8 : Int32), (if (M.2.2.1 (24 + i1)) ≤ 0 then 0 else 1) = x8 → va_P E.1 vwCl [(a 0, .inr (6, [.ref (a 1), .ref (a 2), .ref (a 3), .int (M.1 0), .ref (a 4), .ref (a 5), .int (M.1 1), .int (M.1 2), .int (M.1 3), .ref (a 6), .ref (a 7), .int (M.1 4), .int (M.1 5), .int (M.1 6), .long M.2.1])), (a 1, .inl (eJ E, 68, .inr (.inl M.2.2.1))), (a 2, .inl (eJ E, 68, .inr (.inl M.2.2.2.1))), (a 3, .inl (eJ E, 340, .inr (.inl M.2.2.2.2.1))), (a 4, .inl (eI E, 3, .inl M.2.2.2.2.2.1)), (a 5, .inl (eI E, 120, .inl M.2.2.2.2.2.2.1)), (a 6, .inl (eI E, 60, .inl M.2.2.2.2.2.2.2.1)), (a 7, .inl (eI E, 120, .inl M.2.2.2.2.2.2.2.2))] H → va_D A [(a 0, .inr (6, [.ref (a 1), .ref (a 2), .ref (a 3), .int (M.1 0), .ref (a 4), .ref (a 5), .int (M.1 1), .int (M.1 2), .int (M.1 3), .ref (a 6), .ref (a 7), .int (M.1 4), .int (M.1 5), .int (M.1 6), .long M.2.1])), (a 1, .inl (eJ E, 68, .inr (.inl M.2.2.1))), (a 2, .inl (eJ E, 68, .inr (.inl M.2.2.2.1))), (a 3, .inl (eJ E, 340, .inr (.inl M.2.2.2.2.1))), (a 4, .inl (eI E, 3, .inl M.2.2.2.2.2.1)), (a 5, .inl (eI E, 120, .inl M.2.2.2.2.2.2.1)), (a 6, .inl (eI E, 60, .inl M.2.2.2.2.2.2.2.1)), (a 7, .inl (eI E, 120, .inl M.2.2.2.2.2.2.2.2))] → va_S A s.heap H locs → lv_has ls 3 [(0, .ref (a 0)), (1, .int (lpBands M.2.2.1 i1)), (2, .int (nI i1))] → W p l e rX6_bands s m args below meth c H locs 0 0 Q (F0 m 30 ls [.int x8, .int (lpBands M.2.2.1 i1)]) := by
        intro H locs ls x8 ex8 hP hD hS hl
        refine lv_iadd (pc := 30) hx hb dX6_bands_30 ?_
        refine g_topi (fun x10 ex10 => ?_)
        refine lv_istore_n (lv' := [(1, .int x10), (0, .ref (a 0)), (2, .int (nI i1))]) (pc := 31) hx hb dX6_bands_31 rfl hl (by decide) rfl (fun ls hl => ?_)
        refine lv_iinc (v := nI (i1 + 1)) (lv' := [(2, .int (nI (i1 + 1))), (1, .int x10), (0, .ref (a 0))]) (pc := 32) hx hb dX6_bands_32 hl (k := 2) rfl (nI_1 i1) (by decide) rfl (fun ls hl => ?_)
        refine lv_goto (tgt := 4) (pc := 35) hx hb dX6_bands_35 (by decide) ?_
        subst ex10
        subst ex8
        exact ih3 (i1 + 1) (by omega) _ _ _ hP hD hS (lv_sub hl [2, 1, 0] rfl)
      refine gl_le (tgt := 29) (pc := 21) hx hb dX6_bands_21 dX6_bands_22 rfl (fun c_7 => ?_) (fun c_7 => ?_)
      · refine lv_iconst (v := 0) (pc := 29) hx hb dX6_bands_29 rfl ?_
        exact J_9 _ _ _ _ (if_pos c_7) hP hD hS (lv_sub hl [0, 1, 2] rfl)
      · refine lv_iconst (v := 1) (pc := 25) hx hb dX6_bands_25 rfl ?_
        refine lv_goto (tgt := 30) (pc := 26) hx hb dX6_bands_26 (by decide) ?_
        exact J_9 _ _ _ _ (if_neg c_7) hP hD hS (lv_sub hl [0, 1, 2] rfl)
  exact loop4 22 0 (by decide) _ _ _ hP hD hS (lv_sub hl [2, 1, 0] rfl)

def fX6_lastsBy (W : Nat → Int64) (i : Int32) (w : Int32) : Int32 :=
  if w = 0 then
    ((W 0) / (i.toInt64 + (W 11))).toInt32
  else
    let x3 : Int32 := (if (W 11) < i.toInt64 then (((W 1) / (i.toInt64 - (W 11))).toInt32) else (-10000001))
    x3
abbrev rX6_lastsBy : Room := { frames := 0, cells := 0, slots := 0, locals := 0 }
theorem mm_X6_lastsBy_1 : Cond.fieldLink RX6 7 "GaugeBoundsModel" "now" "[J" ∈ wsX6_lastsBy := List.mem_of_getElem? (i := 1) rfl
theorem mm_X6_lastsBy_2 : Cond.constant RX6 57 (-10000001) ∈ wsX6_lastsBy := List.mem_of_getElem? (i := 2) rfl
theorem ii_X6_lastsBy_X6 : ∀ w ∈ wsX60, w ∈ wsX6_lastsBy := fun _ h => List.mem_cons_of_mem _ (List.mem_append_right _ (h))
theorem qvX6_lastsBy : yX6_lastsBy.cls = RX6 ∧ yX6_lastsBy.cls ≠ "java/lang/invoke/MethodHandle" ∧ yX6_lastsBy.cls ≠ "java/lang/invoke/VarHandle" ∧ (parseMethodDescriptor yX6_lastsBy.desc).map (fun d => d.parameters.length) = some 2 := by decide +kernel
set_option maxHeartbeats 4000000 in
set_option maxRecDepth 100000 in
theorem kX6_lastsBy (l : Launch) (E : gEnv) (a : Nat → Nat) (M : Mdl) (i : Int32) (w : Int32) (hi : 1 ≤ i.toInt ∧ i.toInt ≤ 99) (ho : 0 ≤ (M.2.2.1 11).toInt ∧ (M.2.2.1 11).toInt ≤ 9) : gMi l E yX6_lastsBy wsX6_lastsBy rX6_lastsBy [.ref (a 0), .int i, .int w] (wM E a M) (fX6_lastsBy M.2.2.1 i w) (wM E a M) := by
  refine gMi_of (cc := cX6_lastsBy) (maxL := 5) (ret := (some .int)) (by decide) rfl rfl (Nat.le_of_ble_eq_true rfl) ?_
  intro p e s m args below meth c A Q ls hB hQ
  obtain ⟨hx, hb, hml, hown, hts, hK, hP, hD, hA, hS, hl⟩ := hB
  have hown : s.vm.findClass RX6 = some m.cls := hown
  have hP : va_P E.1 vwCl [(a 0, .inr (6, [.ref (a 1), .ref (a 2), .ref (a 3), .int (M.1 0), .ref (a 4), .ref (a 5), .int (M.1 1), .int (M.1 2), .int (M.1 3), .ref (a 6), .ref (a 7), .int (M.1 4), .int (M.1 5), .int (M.1 6), .long M.2.1])), (a 1, .inl (eJ E, 68, .inr (.inl M.2.2.1))), (a 2, .inl (eJ E, 68, .inr (.inl M.2.2.2.1))), (a 3, .inl (eJ E, 340, .inr (.inl M.2.2.2.2.1))), (a 4, .inl (eI E, 3, .inl M.2.2.2.2.2.1)), (a 5, .inl (eI E, 120, .inl M.2.2.2.2.2.2.1)), (a 6, .inl (eI E, 60, .inl M.2.2.2.2.2.2.2.1)), (a 7, .inl (eI E, 120, .inl M.2.2.2.2.2.2.2.2))] s.heap := hP
  have hD : va_D A [(a 0, .inr (6, [.ref (a 1), .ref (a 2), .ref (a 3), .int (M.1 0), .ref (a 4), .ref (a 5), .int (M.1 1), .int (M.1 2), .int (M.1 3), .ref (a 6), .ref (a 7), .int (M.1 4), .int (M.1 5), .int (M.1 6), .long M.2.1])), (a 1, .inl (eJ E, 68, .inr (.inl M.2.2.1))), (a 2, .inl (eJ E, 68, .inr (.inl M.2.2.2.1))), (a 3, .inl (eJ E, 340, .inr (.inl M.2.2.2.2.1))), (a 4, .inl (eI E, 3, .inl M.2.2.2.2.2.1)), (a 5, .inl (eI E, 120, .inl M.2.2.2.2.2.2.1)), (a 6, .inl (eI E, 60, .inl M.2.2.2.2.2.2.2.1)), (a 7, .inl (eI E, 120, .inl M.2.2.2.2.2.2.2.2))] := hD
  have hl : lv_has ls 5 [(0, .ref (a 0)), (1, .int i), (2, .int w)] := hl
  refine lv_aload_n (pc := 0) hx hb dX6_lastsBy_0 rfl (lv_at hl 0 rfl) ?_
  refine g_get (v := .ref (a 1)) (pc := 1) hx hb hts ii_X6_lastsBy_X6 hown hK.1 hP 0 rfl rfl 0 (by decide) ⟨rfl, rfl, rfl⟩ mm_X6_lastsBy_1 rfl dX6_lastsBy_1 ?_
  refine lv_bipush (v := 11) (pc := 4) hx hb dX6_lastsBy_4 rfl ?_
  refine g_lald (j := 11) (v := (M.2.2.1 11)) (pc := 6) hx hb hK.1 hP 1 1 rfl rfl (g_in (by decide +kernel)) rfl rfl dX6_lastsBy_6 ?_
  refine lv_lstore_n (lv' := [(3, .long (M.2.2.1 11)), (0, .ref (a 0)), (1, .int i), (2, .int w)]) (pc := 7) hx hb dX6_lastsBy_7 rfl hl (by decide) rfl (fun ls hl => ?_)
  refine lv_iload_n (pc := 8) hx hb dX6_lastsBy_8 rfl (lv_at hl 3 rfl) ?_
  refine lv_if_ne (tgt := 25) (pc := 9) hx hb dX6_lastsBy_9 (by decide) (fun c_1 => ?_) (fun c_1 => ?_)
  · refine lv_iload_n (pc := 25) hx hb dX6_lastsBy_25 rfl (lv_at hl 2 rfl) ?_
    refine lv_i2l (v := i.toInt64) (pc := 26) hx hb dX6_lastsBy_26 rfl ?_
    refine lv_lload_n (pc := 27) hx hb dX6_lastsBy_27 rfl (lv_at hl 0 rfl) ?_
    have J_4 : ∀ (H : Heap) (locs : List Loc) (ls : Array Slot) (x3 : Int32), (if (M.2.2.1 11) < i.toInt64 then (((M.2.2.1 1) / (i.toInt64 - (M.2.2.1 11))).toInt32) else (-10000001)) = x3 → va_P E.1 vwCl [(a 0, .inr (6, [.ref (a 1), .ref (a 2), .ref (a 3), .int (M.1 0), .ref (a 4), .ref (a 5), .int (M.1 1), .int (M.1 2), .int (M.1 3), .ref (a 6), .ref (a 7), .int (M.1 4), .int (M.1 5), .int (M.1 6), .long M.2.1])), (a 1, .inl (eJ E, 68, .inr (.inl M.2.2.1))), (a 2, .inl (eJ E, 68, .inr (.inl M.2.2.2.1))), (a 3, .inl (eJ E, 340, .inr (.inl M.2.2.2.2.1))), (a 4, .inl (eI E, 3, .inl M.2.2.2.2.2.1)), (a 5, .inl (eI E, 120, .inl M.2.2.2.2.2.2.1)), (a 6, .inl (eI E, 60, .inl M.2.2.2.2.2.2.2.1)), (a 7, .inl (eI E, 120, .inl M.2.2.2.2.2.2.2.2))] H → va_D A [(a 0, .inr (6, [.ref (a 1), .ref (a 2), .ref (a 3), .int (M.1 0), .ref (a 4), .ref (a 5), .int (M.1 1), .int (M.1 2), .int (M.1 3), .ref (a 6), .ref (a 7), .int (M.1 4), .int (M.1 5), .int (M.1 6), .long M.2.1])), (a 1, .inl (eJ E, 68, .inr (.inl M.2.2.1))), (a 2, .inl (eJ E, 68, .inr (.inl M.2.2.2.1))), (a 3, .inl (eJ E, 340, .inr (.inl M.2.2.2.2.1))), (a 4, .inl (eI E, 3, .inl M.2.2.2.2.2.1)), (a 5, .inl (eI E, 120, .inl M.2.2.2.2.2.2.1)), (a 6, .inl (eI E, 60, .inl M.2.2.2.2.2.2.2.1)), (a 7, .inl (eI E, 120, .inl M.2.2.2.2.2.2.2.2))] → va_S A s.heap H locs → lv_has ls 5 [(0, .ref (a 0)), (1, .int i), (2, .int w), (3, .long (M.2.2.1 11))] → W p l e rX6_lastsBy s m args below meth c H locs 0 0 Q (F0 m 49 ls [.int x3]) := by
      intro H locs ls x3 ex3 hP hD hS hl
      subst ex3
      have hfn : fX6_lastsBy M.2.2.1 i w = _ := if_neg c_1
      rw [hfn] at hQ
      exact hQ _ _ _ _ _ rfl hP hD hS dX6_lastsBy_49
    refine gl_gt (tgt := 37) (pc := 28) hx hb dX6_lastsBy_28 dX6_lastsBy_29 rfl (fun c_2 => ?_) (fun c_2 => ?_)
    · refine lv_aload_n (pc := 37) hx hb dX6_lastsBy_37 rfl (lv_at hl 1 rfl) ?_
      refine g_get (v := .ref (a 1)) (pc := 38) hx hb hts ii_X6_lastsBy_X6 hown hK.1 hP 0 rfl rfl 0 (by decide) ⟨rfl, rfl, rfl⟩ mm_X6_lastsBy_1 rfl dX6_lastsBy_38 ?_
      refine lv_iconst (v := 1) (pc := 41) hx hb dX6_lastsBy_41 rfl ?_
      refine g_lald (j := 1) (v := (M.2.2.1 1)) (pc := 42) hx hb hK.1 hP 1 1 rfl rfl (g_in (by decide +kernel)) rfl rfl dX6_lastsBy_42 ?_
      refine lv_iload_n (pc := 43) hx hb dX6_lastsBy_43 rfl (lv_at hl 2 rfl) ?_
      refine lv_i2l (v := i.toInt64) (pc := 44) hx hb dX6_lastsBy_44 rfl ?_
      refine lv_lload_n (pc := 45) hx hb dX6_lastsBy_45 rfl (lv_at hl 0 rfl) ?_
      refine lv_lsub (pc := 46) hx hb dX6_lastsBy_46 ?_
      refine lv_ldiv (pc := 47) hx hb dX6_lastsBy_47 (nz_dl c_2) ?_
      refine lv_l2i (v := ((M.2.2.1 1) / (i.toInt64 - (M.2.2.1 11))).toInt32) (pc := 48) hx hb dX6_lastsBy_48 rfl ?_
      exact J_4 _ _ _ _ (if_pos c_2) hP hD hS (lv_sub hl [1, 2, 3, 0] rfl)
    · refine lv_ldc (v := (-10000001)) (pc := 32) hx hb hown (hts _ mm_X6_lastsBy_2) dX6_lastsBy_32 ?_
      refine lv_goto (tgt := 49) (pc := 34) hx hb dX6_lastsBy_34 (by decide) ?_
      exact J_4 _ _ _ _ (if_neg c_2) hP hD hS (lv_sub hl [1, 2, 3, 0] rfl)
  · refine lv_aload_n (pc := 12) hx hb dX6_lastsBy_12 rfl (lv_at hl 1 rfl) ?_
    refine g_get (v := .ref (a 1)) (pc := 13) hx hb hts ii_X6_lastsBy_X6 hown hK.1 hP 0 rfl rfl 0 (by decide) ⟨rfl, rfl, rfl⟩ mm_X6_lastsBy_1 rfl dX6_lastsBy_13 ?_
    refine lv_iconst (v := 0) (pc := 16) hx hb dX6_lastsBy_16 rfl ?_
    refine g_lald (j := 0) (v := (M.2.2.1 0)) (pc := 17) hx hb hK.1 hP 1 1 rfl rfl (g_in (by decide +kernel)) rfl rfl dX6_lastsBy_17 ?_
    refine lv_iload_n (pc := 18) hx hb dX6_lastsBy_18 rfl (lv_at hl 2 rfl) ?_
    refine lv_i2l (v := i.toInt64) (pc := 19) hx hb dX6_lastsBy_19 rfl ?_
    refine lv_lload_n (pc := 20) hx hb dX6_lastsBy_20 rfl (lv_at hl 0 rfl) ?_
    refine lv_ladd (pc := 21) hx hb dX6_lastsBy_21 ?_
    refine lv_ldiv (pc := 22) hx hb dX6_lastsBy_22 (nz_sl hi ho) ?_
    refine lv_l2i (v := ((M.2.2.1 0) / (i.toInt64 + (M.2.2.1 11))).toInt32) (pc := 23) hx hb dX6_lastsBy_23 rfl ?_
    have hfn : fX6_lastsBy M.2.2.1 i w = _ := if_pos c_1
    rw [hfn] at hQ
    exact hQ _ _ _ _ _ rfl hP hD hS dX6_lastsBy_24

def fX6_lasts (M : Mdl) (i : Int32) (w : Int32) : Int32 × (Mdl) :=
  let r1 : Int32 := fX6_in i.toInt64 1 99
  if r1 = 0 then
    let r3 : Int32 × (Mdl) := fX6_refuses M (-10000002)
    r3
  else
    let r4 : Int32 := fX6_in w.toInt64 0 1
    if r4 = 0 then
      let r6 : Int32 × (Mdl) := fX6_refuses M (-10000002)
      r6
    else
      let r7 : Int32 := fX6_lastsBy M.2.2.1 i w
      (r7, M)
abbrev rX6_lasts : Room := { frames := 1, cells := 0, slots := 0, locals := 25 }
theorem mm_X6_lasts_1 : Cond.constantLong RX6 81 (99) ∈ wsX6_lasts := List.mem_of_getElem? (i := 1) rfl
theorem mm_X6_lasts_2 : Cond.constant RX6 44 (-10000002) ∈ wsX6_lasts := List.mem_of_getElem? (i := 2) rfl
theorem qvX6_lasts : yX6_lasts.cls = RX6 ∧ yX6_lasts.cls ≠ "java/lang/invoke/MethodHandle" ∧ yX6_lasts.cls ≠ "java/lang/invoke/VarHandle" ∧ (parseMethodDescriptor yX6_lasts.desc).map (fun d => d.parameters.length) = some 2 := by decide +kernel
set_option maxHeartbeats 4000000 in
set_option maxRecDepth 100000 in
theorem kX6_lasts (l : Launch) (E : gEnv) (a : Nat → Nat) (M : Mdl) (i : Int32) (w : Int32) (ho : 0 ≤ (M.2.2.1 11).toInt ∧ (M.2.2.1 11).toInt ≤ 9) : gMi l E yX6_lasts wsX6_lasts rX6_lasts [.ref (a 0), .int i, .int w] (wM E a M) (fX6_lasts M i w).1 (wM E a ((fX6_lasts M i w).2)) := by
  refine gMi_of (cc := cX6_lasts) (maxL := 3) (ret := (some .int)) (by decide) rfl rfl (Nat.le_of_ble_eq_true rfl) ?_
  intro p e s m args below meth c A Q ls hB hQ
  obtain ⟨hx, hb, hml, hown, hts, hK, hP, hD, hA, hS, hl⟩ := hB
  have hown : s.vm.findClass RX6 = some m.cls := hown
  have hP : va_P E.1 vwCl [(a 0, .inr (6, [.ref (a 1), .ref (a 2), .ref (a 3), .int (M.1 0), .ref (a 4), .ref (a 5), .int (M.1 1), .int (M.1 2), .int (M.1 3), .ref (a 6), .ref (a 7), .int (M.1 4), .int (M.1 5), .int (M.1 6), .long M.2.1])), (a 1, .inl (eJ E, 68, .inr (.inl M.2.2.1))), (a 2, .inl (eJ E, 68, .inr (.inl M.2.2.2.1))), (a 3, .inl (eJ E, 340, .inr (.inl M.2.2.2.2.1))), (a 4, .inl (eI E, 3, .inl M.2.2.2.2.2.1)), (a 5, .inl (eI E, 120, .inl M.2.2.2.2.2.2.1)), (a 6, .inl (eI E, 60, .inl M.2.2.2.2.2.2.2.1)), (a 7, .inl (eI E, 120, .inl M.2.2.2.2.2.2.2.2))] s.heap := hP
  have hD : va_D A [(a 0, .inr (6, [.ref (a 1), .ref (a 2), .ref (a 3), .int (M.1 0), .ref (a 4), .ref (a 5), .int (M.1 1), .int (M.1 2), .int (M.1 3), .ref (a 6), .ref (a 7), .int (M.1 4), .int (M.1 5), .int (M.1 6), .long M.2.1])), (a 1, .inl (eJ E, 68, .inr (.inl M.2.2.1))), (a 2, .inl (eJ E, 68, .inr (.inl M.2.2.2.1))), (a 3, .inl (eJ E, 340, .inr (.inl M.2.2.2.2.1))), (a 4, .inl (eI E, 3, .inl M.2.2.2.2.2.1)), (a 5, .inl (eI E, 120, .inl M.2.2.2.2.2.2.1)), (a 6, .inl (eI E, 60, .inl M.2.2.2.2.2.2.2.1)), (a 7, .inl (eI E, 120, .inl M.2.2.2.2.2.2.2.2))] := hD
  have hl : lv_has ls 3 [(0, .ref (a 0)), (1, .int i), (2, .int w)] := hl
  refine lv_iload_n (pc := 0) hx hb dX6_lasts_0 rfl (lv_at hl 1 rfl) ?_
  refine lv_i2l (v := i.toInt64) (pc := 1) hx hb dX6_lasts_1 rfl ?_
  refine lv_lconst (v := 1) (pc := 2) hx hb dX6_lasts_2 rfl ?_
  refine lv_ldc2 (v := (99)) (pc := 3) hx hb hown (hts _ mm_X6_lasts_1) dX6_lasts_3 ?_
  obtain ⟨r1, er1⟩ : ∃ z : Int32, fX6_in i.toInt64 1 99 = z := ⟨_, rfl⟩
  have hr1 := kX6_in l E i.toInt64 1 99
  rw [er1] at hr1
  refine gcSi (pc := 6) (As := [.long i.toInt64, .long 1, .long 99]) (rest := []) ⟨hx, hb, hml, hown, hts⟩ hr1 (cwS 3 hts gX6_lasts_X6_in rfl rfl rfl qsX6_in ⟨Nat.le_of_ble_eq_true rfl, Nat.le_of_ble_eq_true rfl⟩) hK hP hD hS hA rfl hl.1 rfl (Nat.le_of_ble_eq_true rfl) dX6_lasts_6 ⟨Nat.zero_le _, Nat.zero_le _⟩ (fun H locs hP hD hS => ?_)
  refine lv_if_eq (tgt := 31) (pc := 9) hx hb dX6_lasts_9 (by decide) (fun c_2 => ?_) (fun c_2 => ?_)
  · refine lv_aload_n (pc := 31) hx hb dX6_lasts_31 rfl (lv_at hl 0 rfl) ?_
    refine lv_ldc (v := (-10000002)) (pc := 32) hx hb hown (hts _ mm_X6_lasts_2) dX6_lasts_32 ?_
    obtain ⟨r3, er3⟩ : ∃ z : Int32 × (Mdl), fX6_refuses M (-10000002) = z := ⟨_, rfl⟩
    have hr3 := kX6_refuses l E a M (-10000002) hv_bad
    rw [er3] at hr3
    refine gcVi (pc := 34) (w1 := [(a 0, .inr (6, [.ref (a 1), .ref (a 2), .ref (a 3), .int (r3.2.1 0), .ref (a 4), .ref (a 5), .int (r3.2.1 1), .int (r3.2.1 2), .int (r3.2.1 3), .ref (a 6), .ref (a 7), .int (r3.2.1 4), .int (r3.2.1 5), .int (r3.2.1 6), .long r3.2.2.1])), (a 1, .inl (eJ E, 68, .inr (.inl r3.2.2.2.1))), (a 2, .inl (eJ E, 68, .inr (.inl r3.2.2.2.2.1))), (a 3, .inl (eJ E, 340, .inr (.inl r3.2.2.2.2.2.1))), (a 4, .inl (eI E, 3, .inl r3.2.2.2.2.2.2.1)), (a 5, .inl (eI E, 120, .inl r3.2.2.2.2.2.2.2.1)), (a 6, .inl (eI E, 60, .inl r3.2.2.2.2.2.2.2.2.1)), (a 7, .inl (eI E, 120, .inl r3.2.2.2.2.2.2.2.2.2))]) (pre := []) (post := []) (As := [.int (-10000002)]) (rest := []) (q0 := 0) ⟨hx, hb, hml, hown, hts⟩ hr3 (cwV 1 hts gX6_lasts_X6_refuses rfl rfl rfl qvX6_refuses ⟨Nat.le_of_ble_eq_true rfl, Nat.le_of_ble_eq_true rfl⟩) hK hP hD hS hA rfl rfl rfl rfl rfl hl.1 rfl (Nat.le_of_ble_eq_true rfl) dX6_lasts_34 ⟨Nat.zero_le _, Nat.zero_le _⟩ (fun H locs hP hD hS => ?_)
    subst er3
    subst er1
    have hfn : fX6_lasts M i w = _ := if_pos c_2
    rw [hfn] at hQ
    exact hQ _ _ _ _ _ rfl hP hD hS dX6_lasts_37
  · refine lv_iload_n (pc := 12) hx hb dX6_lasts_12 rfl (lv_at hl 2 rfl) ?_
    refine lv_i2l (v := w.toInt64) (pc := 13) hx hb dX6_lasts_13 rfl ?_
    refine lv_lconst (v := 0) (pc := 14) hx hb dX6_lasts_14 rfl ?_
    refine lv_lconst (v := 1) (pc := 15) hx hb dX6_lasts_15 rfl ?_
    obtain ⟨r4, er4⟩ : ∃ z : Int32, fX6_in w.toInt64 0 1 = z := ⟨_, rfl⟩
    have hr4 := kX6_in l E w.toInt64 0 1
    rw [er4] at hr4
    refine gcSi (pc := 16) (As := [.long w.toInt64, .long 0, .long 1]) (rest := []) ⟨hx, hb, hml, hown, hts⟩ hr4 (cwS 3 hts gX6_lasts_X6_in rfl rfl rfl qsX6_in ⟨Nat.le_of_ble_eq_true rfl, Nat.le_of_ble_eq_true rfl⟩) hK hP hD hS hA rfl hl.1 rfl (Nat.le_of_ble_eq_true rfl) dX6_lasts_16 ⟨Nat.zero_le _, Nat.zero_le _⟩ (fun H locs hP hD hS => ?_)
    refine lv_if_eq (tgt := 31) (pc := 19) hx hb dX6_lasts_19 (by decide) (fun c_5 => ?_) (fun c_5 => ?_)
    · refine lv_aload_n (pc := 31) hx hb dX6_lasts_31 rfl (lv_at hl 0 rfl) ?_
      refine lv_ldc (v := (-10000002)) (pc := 32) hx hb hown (hts _ mm_X6_lasts_2) dX6_lasts_32 ?_
      obtain ⟨r6, er6⟩ : ∃ z : Int32 × (Mdl), fX6_refuses M (-10000002) = z := ⟨_, rfl⟩
      have hr6 := kX6_refuses l E a M (-10000002) hv_bad
      rw [er6] at hr6
      refine gcVi (pc := 34) (w1 := [(a 0, .inr (6, [.ref (a 1), .ref (a 2), .ref (a 3), .int (r6.2.1 0), .ref (a 4), .ref (a 5), .int (r6.2.1 1), .int (r6.2.1 2), .int (r6.2.1 3), .ref (a 6), .ref (a 7), .int (r6.2.1 4), .int (r6.2.1 5), .int (r6.2.1 6), .long r6.2.2.1])), (a 1, .inl (eJ E, 68, .inr (.inl r6.2.2.2.1))), (a 2, .inl (eJ E, 68, .inr (.inl r6.2.2.2.2.1))), (a 3, .inl (eJ E, 340, .inr (.inl r6.2.2.2.2.2.1))), (a 4, .inl (eI E, 3, .inl r6.2.2.2.2.2.2.1)), (a 5, .inl (eI E, 120, .inl r6.2.2.2.2.2.2.2.1)), (a 6, .inl (eI E, 60, .inl r6.2.2.2.2.2.2.2.2.1)), (a 7, .inl (eI E, 120, .inl r6.2.2.2.2.2.2.2.2.2))]) (pre := []) (post := []) (As := [.int (-10000002)]) (rest := []) (q0 := 0) ⟨hx, hb, hml, hown, hts⟩ hr6 (cwV 1 hts gX6_lasts_X6_refuses rfl rfl rfl qvX6_refuses ⟨Nat.le_of_ble_eq_true rfl, Nat.le_of_ble_eq_true rfl⟩) hK hP hD hS hA rfl rfl rfl rfl rfl hl.1 rfl (Nat.le_of_ble_eq_true rfl) dX6_lasts_34 ⟨Nat.zero_le _, Nat.zero_le _⟩ (fun H locs hP hD hS => ?_)
      subst er6
      subst er4
      subst er1
      have hfn : fX6_lasts M i w = _ := (if_neg c_2).trans (if_pos c_5)
      rw [hfn] at hQ
      exact hQ _ _ _ _ _ rfl hP hD hS dX6_lasts_37
    · refine lv_aload_n (pc := 22) hx hb dX6_lasts_22 rfl (lv_at hl 0 rfl) ?_
      refine lv_iload_n (pc := 23) hx hb dX6_lasts_23 rfl (lv_at hl 1 rfl) ?_
      refine lv_iload_n (pc := 24) hx hb dX6_lasts_24 rfl (lv_at hl 2 rfl) ?_
      obtain ⟨r7, er7⟩ : ∃ z : Int32, fX6_lastsBy M.2.2.1 i w = z := ⟨_, rfl⟩
      have hr7 := kX6_lastsBy l E a M i w (by subst er1; exact in_i c_2) ho
      rw [er7] at hr7
      refine gcVi (pc := 25) (w1 := [(a 0, .inr (6, [.ref (a 1), .ref (a 2), .ref (a 3), .int (M.1 0), .ref (a 4), .ref (a 5), .int (M.1 1), .int (M.1 2), .int (M.1 3), .ref (a 6), .ref (a 7), .int (M.1 4), .int (M.1 5), .int (M.1 6), .long M.2.1])), (a 1, .inl (eJ E, 68, .inr (.inl M.2.2.1))), (a 2, .inl (eJ E, 68, .inr (.inl M.2.2.2.1))), (a 3, .inl (eJ E, 340, .inr (.inl M.2.2.2.2.1))), (a 4, .inl (eI E, 3, .inl M.2.2.2.2.2.1)), (a 5, .inl (eI E, 120, .inl M.2.2.2.2.2.2.1)), (a 6, .inl (eI E, 60, .inl M.2.2.2.2.2.2.2.1)), (a 7, .inl (eI E, 120, .inl M.2.2.2.2.2.2.2.2))]) (pre := []) (post := []) (As := [.int i, .int w]) (rest := []) (q0 := 0) ⟨hx, hb, hml, hown, hts⟩ hr7 (cwV 2 hts gX6_lasts_X6_lastsBy rfl rfl rfl qvX6_lastsBy ⟨Nat.le_of_ble_eq_true rfl, Nat.le_of_ble_eq_true rfl⟩) hK hP hD hS hA rfl rfl rfl rfl rfl hl.1 rfl (Nat.le_of_ble_eq_true rfl) dX6_lasts_25 ⟨Nat.zero_le _, Nat.zero_le _⟩ (fun H locs hP hD hS => ?_)
      refine lv_goto (tgt := 37) (pc := 28) hx hb dX6_lasts_28 (by decide) ?_
      subst er7
      subst er4
      subst er1
      have hfn : fX6_lasts M i w = _ := (if_neg c_2).trans (if_neg c_5)
      rw [hfn] at hQ
      exact hQ _ _ _ _ _ rfl hP hD hS dX6_lasts_37

def fX6_under (M : Mdl) (i : Int32) : Int32 × (Mdl) :=
  let r1 : Int32 := fX6_in i.toInt64 (-99) 99
  if r1 = 0 then
    let r3 : Int32 × (Mdl) := fX6_refuses M (-10000002)
    r3
  else
    if i = 0 then
      let r11 : Int32 × (Mdl) := fX6_refuses M (-10000002)
      r11
    else
      let r5 : Int32 := fX6_bandNow M.2.2.1 i
      let r6 : Int32 := fX6_bandOf M.2.2.1 r5 0
      if r6 = (-10000001) then
        let r10 : Int32 × (Mdl) := fX6_refuses M (-10000003)
        r10
      else
        let r8 : Int32 := fX6_middle M.2.2.1
        let r9 : Int32 := fX6_voltsAt M.2.2.1 r8
        (r9 - ((i * r6) / 100), M)
abbrev rX6_under : Room := { frames := 2, cells := 0, slots := 0, locals := 45 }
theorem mm_X6_under_1 : Cond.constantLong RX6 79 (-99) ∈ wsX6_under := List.mem_of_getElem? (i := 1) rfl
theorem mm_X6_under_2 : Cond.constantLong RX6 81 (99) ∈ wsX6_under := List.mem_of_getElem? (i := 2) rfl
theorem mm_X6_under_3 : Cond.constant RX6 44 (-10000002) ∈ wsX6_under := List.mem_of_getElem? (i := 3) rfl
theorem mm_X6_under_4 : Cond.constant RX6 57 (-10000001) ∈ wsX6_under := List.mem_of_getElem? (i := 4) rfl
theorem mm_X6_under_5 : Cond.constant RX6 49 (-10000003) ∈ wsX6_under := List.mem_of_getElem? (i := 5) rfl
theorem qvX6_under : yX6_under.cls = RX6 ∧ yX6_under.cls ≠ "java/lang/invoke/MethodHandle" ∧ yX6_under.cls ≠ "java/lang/invoke/VarHandle" ∧ (parseMethodDescriptor yX6_under.desc).map (fun d => d.parameters.length) = some 1 := by decide +kernel
set_option maxHeartbeats 4000000 in
set_option maxRecDepth 100000 in
theorem kX6_under (l : Launch) (E : gEnv) (a : Nat → Nat) (M : Mdl) (i : Int32) (hm : 0 ≤ (fX6_middle M.2.2.1).toInt ∧ (fX6_middle M.2.2.1).toInt ≤ 1000) : gMi l E yX6_under wsX6_under rX6_under [.ref (a 0), .int i] (wM E a M) (fX6_under M i).1 (wM E a ((fX6_under M i).2)) := by
  refine gMi_of (cc := cX6_under) (maxL := 3) (ret := (some .int)) (by decide) rfl rfl (Nat.le_of_ble_eq_true rfl) ?_
  intro p e s m args below meth c A Q ls hB hQ
  obtain ⟨hx, hb, hml, hown, hts, hK, hP, hD, hA, hS, hl⟩ := hB
  have hown : s.vm.findClass RX6 = some m.cls := hown
  have hP : va_P E.1 vwCl [(a 0, .inr (6, [.ref (a 1), .ref (a 2), .ref (a 3), .int (M.1 0), .ref (a 4), .ref (a 5), .int (M.1 1), .int (M.1 2), .int (M.1 3), .ref (a 6), .ref (a 7), .int (M.1 4), .int (M.1 5), .int (M.1 6), .long M.2.1])), (a 1, .inl (eJ E, 68, .inr (.inl M.2.2.1))), (a 2, .inl (eJ E, 68, .inr (.inl M.2.2.2.1))), (a 3, .inl (eJ E, 340, .inr (.inl M.2.2.2.2.1))), (a 4, .inl (eI E, 3, .inl M.2.2.2.2.2.1)), (a 5, .inl (eI E, 120, .inl M.2.2.2.2.2.2.1)), (a 6, .inl (eI E, 60, .inl M.2.2.2.2.2.2.2.1)), (a 7, .inl (eI E, 120, .inl M.2.2.2.2.2.2.2.2))] s.heap := hP
  have hD : va_D A [(a 0, .inr (6, [.ref (a 1), .ref (a 2), .ref (a 3), .int (M.1 0), .ref (a 4), .ref (a 5), .int (M.1 1), .int (M.1 2), .int (M.1 3), .ref (a 6), .ref (a 7), .int (M.1 4), .int (M.1 5), .int (M.1 6), .long M.2.1])), (a 1, .inl (eJ E, 68, .inr (.inl M.2.2.1))), (a 2, .inl (eJ E, 68, .inr (.inl M.2.2.2.1))), (a 3, .inl (eJ E, 340, .inr (.inl M.2.2.2.2.1))), (a 4, .inl (eI E, 3, .inl M.2.2.2.2.2.1)), (a 5, .inl (eI E, 120, .inl M.2.2.2.2.2.2.1)), (a 6, .inl (eI E, 60, .inl M.2.2.2.2.2.2.2.1)), (a 7, .inl (eI E, 120, .inl M.2.2.2.2.2.2.2.2))] := hD
  have hl : lv_has ls 3 [(0, .ref (a 0)), (1, .int i)] := hl
  refine lv_iload_n (pc := 0) hx hb dX6_under_0 rfl (lv_at hl 1 rfl) ?_
  refine lv_i2l (v := i.toInt64) (pc := 1) hx hb dX6_under_1 rfl ?_
  refine lv_ldc2 (v := (-99)) (pc := 2) hx hb hown (hts _ mm_X6_under_1) dX6_under_2 ?_
  refine lv_ldc2 (v := (99)) (pc := 5) hx hb hown (hts _ mm_X6_under_2) dX6_under_5 ?_
  obtain ⟨r1, er1⟩ : ∃ z : Int32, fX6_in i.toInt64 (-99) 99 = z := ⟨_, rfl⟩
  have hr1 := kX6_in l E i.toInt64 (-99) 99
  rw [er1] at hr1
  refine gcSi (pc := 8) (As := [.long i.toInt64, .long (-99), .long 99]) (rest := []) ⟨hx, hb, hml, hown, hts⟩ hr1 (cwS 3 hts gX6_under_X6_in rfl rfl rfl qsX6_in ⟨Nat.le_of_ble_eq_true rfl, Nat.le_of_ble_eq_true rfl⟩) hK hP hD hS hA rfl hl.1 rfl (Nat.le_of_ble_eq_true rfl) dX6_under_8 ⟨Nat.zero_le _, Nat.zero_le _⟩ (fun H locs hP hD hS => ?_)
  refine lv_if_eq (tgt := 18) (pc := 11) hx hb dX6_under_11 (by decide) (fun c_2 => ?_) (fun c_2 => ?_)
  · refine lv_aload_n (pc := 18) hx hb dX6_under_18 rfl (lv_at hl 0 rfl) ?_
    refine lv_ldc (v := (-10000002)) (pc := 19) hx hb hown (hts _ mm_X6_under_3) dX6_under_19 ?_
    obtain ⟨r3, er3⟩ : ∃ z : Int32 × (Mdl), fX6_refuses M (-10000002) = z := ⟨_, rfl⟩
    have hr3 := kX6_refuses l E a M (-10000002) hv_bad
    rw [er3] at hr3
    refine gcVi (pc := 21) (w1 := [(a 0, .inr (6, [.ref (a 1), .ref (a 2), .ref (a 3), .int (r3.2.1 0), .ref (a 4), .ref (a 5), .int (r3.2.1 1), .int (r3.2.1 2), .int (r3.2.1 3), .ref (a 6), .ref (a 7), .int (r3.2.1 4), .int (r3.2.1 5), .int (r3.2.1 6), .long r3.2.2.1])), (a 1, .inl (eJ E, 68, .inr (.inl r3.2.2.2.1))), (a 2, .inl (eJ E, 68, .inr (.inl r3.2.2.2.2.1))), (a 3, .inl (eJ E, 340, .inr (.inl r3.2.2.2.2.2.1))), (a 4, .inl (eI E, 3, .inl r3.2.2.2.2.2.2.1)), (a 5, .inl (eI E, 120, .inl r3.2.2.2.2.2.2.2.1)), (a 6, .inl (eI E, 60, .inl r3.2.2.2.2.2.2.2.2.1)), (a 7, .inl (eI E, 120, .inl r3.2.2.2.2.2.2.2.2.2))]) (pre := []) (post := []) (As := [.int (-10000002)]) (rest := []) (q0 := 0) ⟨hx, hb, hml, hown, hts⟩ hr3 (cwV 1 hts gX6_under_X6_refuses rfl rfl rfl qvX6_refuses ⟨Nat.le_of_ble_eq_true rfl, Nat.le_of_ble_eq_true rfl⟩) hK hP hD hS hA rfl rfl rfl rfl rfl hl.1 rfl (Nat.le_of_ble_eq_true rfl) dX6_under_21 ⟨Nat.zero_le _, Nat.zero_le _⟩ (fun H locs hP hD hS => ?_)
    subst er3
    subst er1
    have hfn : fX6_under M i = _ := if_pos c_2
    rw [hfn] at hQ
    exact hQ _ _ _ _ _ rfl hP hD hS dX6_under_24
  · refine lv_iload_n (pc := 14) hx hb dX6_under_14 rfl (lv_at hl 1 rfl) ?_
    refine lv_if_ne (tgt := 25) (pc := 15) hx hb dX6_under_15 (by decide) (fun c_4 => ?_) (fun c_4 => ?_)
    · refine lv_aload_n (pc := 25) hx hb dX6_under_25 rfl (lv_at hl 0 rfl) ?_
      refine lv_aload_n (pc := 26) hx hb dX6_under_26 rfl (lv_at hl 0 rfl) ?_
      refine lv_iload_n (pc := 27) hx hb dX6_under_27 rfl (lv_at hl 1 rfl) ?_
      obtain ⟨r5, er5⟩ : ∃ z : Int32, fX6_bandNow M.2.2.1 i = z := ⟨_, rfl⟩
      have hr5 := kX6_bandNow l E a M i
      rw [er5] at hr5
      refine gcVi (pc := 28) (w1 := [(a 0, .inr (6, [.ref (a 1), .ref (a 2), .ref (a 3), .int (M.1 0), .ref (a 4), .ref (a 5), .int (M.1 1), .int (M.1 2), .int (M.1 3), .ref (a 6), .ref (a 7), .int (M.1 4), .int (M.1 5), .int (M.1 6), .long M.2.1])), (a 1, .inl (eJ E, 68, .inr (.inl M.2.2.1))), (a 2, .inl (eJ E, 68, .inr (.inl M.2.2.2.1))), (a 3, .inl (eJ E, 340, .inr (.inl M.2.2.2.2.1))), (a 4, .inl (eI E, 3, .inl M.2.2.2.2.2.1)), (a 5, .inl (eI E, 120, .inl M.2.2.2.2.2.2.1)), (a 6, .inl (eI E, 60, .inl M.2.2.2.2.2.2.2.1)), (a 7, .inl (eI E, 120, .inl M.2.2.2.2.2.2.2.2))]) (pre := []) (post := []) (As := [.int i]) (rest := [.ref (a 0)]) (q0 := 0) ⟨hx, hb, hml, hown, hts⟩ hr5 (cwV 1 hts gX6_under_X6_bandNow rfl rfl rfl qvX6_bandNow ⟨Nat.le_of_ble_eq_true rfl, Nat.le_of_ble_eq_true rfl⟩) hK hP hD hS hA rfl rfl rfl rfl rfl hl.1 rfl (Nat.le_of_ble_eq_true rfl) dX6_under_28 ⟨Nat.zero_le _, Nat.zero_le _⟩ (fun H locs hP hD hS => ?_)
      refine lv_iconst (v := 0) (pc := 31) hx hb dX6_under_31 rfl ?_
      obtain ⟨r6, er6⟩ : ∃ z : Int32, fX6_bandOf M.2.2.1 r5 0 = z := ⟨_, rfl⟩
      have hr6 := kX6_bandOf l E a M r5 0 (by subst er5; exact bn_in i hm)
      rw [er6] at hr6
      refine gcVi (pc := 32) (w1 := [(a 0, .inr (6, [.ref (a 1), .ref (a 2), .ref (a 3), .int (M.1 0), .ref (a 4), .ref (a 5), .int (M.1 1), .int (M.1 2), .int (M.1 3), .ref (a 6), .ref (a 7), .int (M.1 4), .int (M.1 5), .int (M.1 6), .long M.2.1])), (a 1, .inl (eJ E, 68, .inr (.inl M.2.2.1))), (a 2, .inl (eJ E, 68, .inr (.inl M.2.2.2.1))), (a 3, .inl (eJ E, 340, .inr (.inl M.2.2.2.2.1))), (a 4, .inl (eI E, 3, .inl M.2.2.2.2.2.1)), (a 5, .inl (eI E, 120, .inl M.2.2.2.2.2.2.1)), (a 6, .inl (eI E, 60, .inl M.2.2.2.2.2.2.2.1)), (a 7, .inl (eI E, 120, .inl M.2.2.2.2.2.2.2.2))]) (pre := []) (post := []) (As := [.int r5, .int 0]) (rest := []) (q0 := 0) ⟨hx, hb, hml, hown, hts⟩ hr6 (cwV 2 hts gX6_under_X6_bandOf rfl rfl rfl qvX6_bandOf ⟨Nat.le_of_ble_eq_true rfl, Nat.le_of_ble_eq_true rfl⟩) hK hP hD hS hA rfl rfl rfl rfl rfl hl.1 rfl (Nat.le_of_ble_eq_true rfl) dX6_under_32 ⟨Nat.zero_le _, Nat.zero_le _⟩ (fun H locs hP hD hS => ?_)
      refine lv_istore_n (lv' := [(2, .int r6), (0, .ref (a 0)), (1, .int i)]) (pc := 35) hx hb dX6_under_35 rfl hl (by decide) rfl (fun ls hl => ?_)
      refine lv_iload_n (pc := 36) hx hb dX6_under_36 rfl (lv_at hl 0 rfl) ?_
      refine lv_ldc (v := (-10000001)) (pc := 37) hx hb hown (hts _ mm_X6_under_4) dX6_under_37 ?_
      refine lv_icmp_ne (tgt := 51) (pc := 39) hx hb dX6_under_39 (by decide) (fun c_7 => ?_) (fun c_7 => ?_)
      · refine lv_aload_n (pc := 51) hx hb dX6_under_51 rfl (lv_at hl 1 rfl) ?_
        refine lv_aload_n (pc := 52) hx hb dX6_under_52 rfl (lv_at hl 1 rfl) ?_
        obtain ⟨r8, er8⟩ : ∃ z : Int32, fX6_middle M.2.2.1 = z := ⟨_, rfl⟩
        have hr8 := kX6_middle l E a M
        rw [er8] at hr8
        refine gcVi (pc := 53) (w1 := [(a 0, .inr (6, [.ref (a 1), .ref (a 2), .ref (a 3), .int (M.1 0), .ref (a 4), .ref (a 5), .int (M.1 1), .int (M.1 2), .int (M.1 3), .ref (a 6), .ref (a 7), .int (M.1 4), .int (M.1 5), .int (M.1 6), .long M.2.1])), (a 1, .inl (eJ E, 68, .inr (.inl M.2.2.1))), (a 2, .inl (eJ E, 68, .inr (.inl M.2.2.2.1))), (a 3, .inl (eJ E, 340, .inr (.inl M.2.2.2.2.1))), (a 4, .inl (eI E, 3, .inl M.2.2.2.2.2.1)), (a 5, .inl (eI E, 120, .inl M.2.2.2.2.2.2.1)), (a 6, .inl (eI E, 60, .inl M.2.2.2.2.2.2.2.1)), (a 7, .inl (eI E, 120, .inl M.2.2.2.2.2.2.2.2))]) (pre := []) (post := []) (As := []) (rest := [.ref (a 0)]) (q0 := 0) ⟨hx, hb, hml, hown, hts⟩ hr8 (cwV 0 hts gX6_under_X6_middle rfl rfl rfl qvX6_middle ⟨Nat.le_of_ble_eq_true rfl, Nat.le_of_ble_eq_true rfl⟩) hK hP hD hS hA rfl rfl rfl rfl rfl hl.1 rfl (Nat.le_of_ble_eq_true rfl) dX6_under_53 ⟨Nat.zero_le _, Nat.zero_le _⟩ (fun H locs hP hD hS => ?_)
        obtain ⟨r9, er9⟩ : ∃ z : Int32, fX6_voltsAt M.2.2.1 r8 = z := ⟨_, rfl⟩
        have hr9 := kX6_voltsAt l E a M r8 (by subst er8; exact hm)
        rw [er9] at hr9
        refine gcVi (pc := 56) (w1 := [(a 0, .inr (6, [.ref (a 1), .ref (a 2), .ref (a 3), .int (M.1 0), .ref (a 4), .ref (a 5), .int (M.1 1), .int (M.1 2), .int (M.1 3), .ref (a 6), .ref (a 7), .int (M.1 4), .int (M.1 5), .int (M.1 6), .long M.2.1])), (a 1, .inl (eJ E, 68, .inr (.inl M.2.2.1))), (a 2, .inl (eJ E, 68, .inr (.inl M.2.2.2.1))), (a 3, .inl (eJ E, 340, .inr (.inl M.2.2.2.2.1))), (a 4, .inl (eI E, 3, .inl M.2.2.2.2.2.1)), (a 5, .inl (eI E, 120, .inl M.2.2.2.2.2.2.1)), (a 6, .inl (eI E, 60, .inl M.2.2.2.2.2.2.2.1)), (a 7, .inl (eI E, 120, .inl M.2.2.2.2.2.2.2.2))]) (pre := []) (post := []) (As := [.int r8]) (rest := []) (q0 := 0) ⟨hx, hb, hml, hown, hts⟩ hr9 (cwV 1 hts gX6_under_X6_voltsAt rfl rfl rfl qvX6_voltsAt ⟨Nat.le_of_ble_eq_true rfl, Nat.le_of_ble_eq_true rfl⟩) hK hP hD hS hA rfl rfl rfl rfl rfl hl.1 rfl (Nat.le_of_ble_eq_true rfl) dX6_under_56 ⟨Nat.zero_le _, Nat.zero_le _⟩ (fun H locs hP hD hS => ?_)
        refine lv_iload_n (pc := 59) hx hb dX6_under_59 rfl (lv_at hl 2 rfl) ?_
        refine lv_iload_n (pc := 60) hx hb dX6_under_60 rfl (lv_at hl 0 rfl) ?_
        refine lv_imul (pc := 61) hx hb dX6_under_61 ?_
        refine lv_bipush (v := 100) (pc := 62) hx hb dX6_under_62 rfl ?_
        refine lv_idiv (pc := 64) hx hb dX6_under_64 (by decide) ?_
        refine lv_isub (pc := 65) hx hb dX6_under_65 ?_
        subst er9
        subst er8
        subst er6
        subst er5
        subst er1
        have hfn : fX6_under M i = _ := (if_neg c_2).trans ((if_neg c_4).trans (if_neg c_7))
        rw [hfn] at hQ
        exact hQ _ _ _ _ _ rfl hP hD hS dX6_under_66
      · refine lv_aload_n (pc := 42) hx hb dX6_under_42 rfl (lv_at hl 1 rfl) ?_
        refine lv_ldc (v := (-10000003)) (pc := 43) hx hb hown (hts _ mm_X6_under_5) dX6_under_43 ?_
        obtain ⟨r10, er10⟩ : ∃ z : Int32 × (Mdl), fX6_refuses M (-10000003) = z := ⟨_, rfl⟩
        have hr10 := kX6_refuses l E a M (-10000003) hv_no
        rw [er10] at hr10
        refine gcVi (pc := 45) (w1 := [(a 0, .inr (6, [.ref (a 1), .ref (a 2), .ref (a 3), .int (r10.2.1 0), .ref (a 4), .ref (a 5), .int (r10.2.1 1), .int (r10.2.1 2), .int (r10.2.1 3), .ref (a 6), .ref (a 7), .int (r10.2.1 4), .int (r10.2.1 5), .int (r10.2.1 6), .long r10.2.2.1])), (a 1, .inl (eJ E, 68, .inr (.inl r10.2.2.2.1))), (a 2, .inl (eJ E, 68, .inr (.inl r10.2.2.2.2.1))), (a 3, .inl (eJ E, 340, .inr (.inl r10.2.2.2.2.2.1))), (a 4, .inl (eI E, 3, .inl r10.2.2.2.2.2.2.1)), (a 5, .inl (eI E, 120, .inl r10.2.2.2.2.2.2.2.1)), (a 6, .inl (eI E, 60, .inl r10.2.2.2.2.2.2.2.2.1)), (a 7, .inl (eI E, 120, .inl r10.2.2.2.2.2.2.2.2.2))]) (pre := []) (post := []) (As := [.int (-10000003)]) (rest := []) (q0 := 0) ⟨hx, hb, hml, hown, hts⟩ hr10 (cwV 1 hts gX6_under_X6_refuses rfl rfl rfl qvX6_refuses ⟨Nat.le_of_ble_eq_true rfl, Nat.le_of_ble_eq_true rfl⟩) hK hP hD hS hA rfl rfl rfl rfl rfl hl.1 rfl (Nat.le_of_ble_eq_true rfl) dX6_under_45 ⟨Nat.zero_le _, Nat.zero_le _⟩ (fun H locs hP hD hS => ?_)
        refine lv_goto (tgt := 66) (pc := 48) hx hb dX6_under_48 (by decide) ?_
        subst er10
        subst er6
        subst er5
        subst er1
        have hfn : fX6_under M i = _ := (if_neg c_2).trans ((if_neg c_4).trans (if_pos c_7))
        rw [hfn] at hQ
        exact hQ _ _ _ _ _ rfl hP hD hS dX6_under_66
    · refine lv_aload_n (pc := 18) hx hb dX6_under_18 rfl (lv_at hl 0 rfl) ?_
      refine lv_ldc (v := (-10000002)) (pc := 19) hx hb hown (hts _ mm_X6_under_3) dX6_under_19 ?_
      obtain ⟨r11, er11⟩ : ∃ z : Int32 × (Mdl), fX6_refuses M (-10000002) = z := ⟨_, rfl⟩
      have hr11 := kX6_refuses l E a M (-10000002) hv_bad
      rw [er11] at hr11
      refine gcVi (pc := 21) (w1 := [(a 0, .inr (6, [.ref (a 1), .ref (a 2), .ref (a 3), .int (r11.2.1 0), .ref (a 4), .ref (a 5), .int (r11.2.1 1), .int (r11.2.1 2), .int (r11.2.1 3), .ref (a 6), .ref (a 7), .int (r11.2.1 4), .int (r11.2.1 5), .int (r11.2.1 6), .long r11.2.2.1])), (a 1, .inl (eJ E, 68, .inr (.inl r11.2.2.2.1))), (a 2, .inl (eJ E, 68, .inr (.inl r11.2.2.2.2.1))), (a 3, .inl (eJ E, 340, .inr (.inl r11.2.2.2.2.2.1))), (a 4, .inl (eI E, 3, .inl r11.2.2.2.2.2.2.1)), (a 5, .inl (eI E, 120, .inl r11.2.2.2.2.2.2.2.1)), (a 6, .inl (eI E, 60, .inl r11.2.2.2.2.2.2.2.2.1)), (a 7, .inl (eI E, 120, .inl r11.2.2.2.2.2.2.2.2.2))]) (pre := []) (post := []) (As := [.int (-10000002)]) (rest := []) (q0 := 0) ⟨hx, hb, hml, hown, hts⟩ hr11 (cwV 1 hts gX6_under_X6_refuses rfl rfl rfl qvX6_refuses ⟨Nat.le_of_ble_eq_true rfl, Nat.le_of_ble_eq_true rfl⟩) hK hP hD hS hA rfl rfl rfl rfl rfl hl.1 rfl (Nat.le_of_ble_eq_true rfl) dX6_under_21 ⟨Nat.zero_le _, Nat.zero_le _⟩ (fun H locs hP hD hS => ?_)
      subst er11
      subst er1
      have hfn : fX6_under M i = _ := (if_neg c_2).trans (if_pos c_4)
      rw [hfn] at hQ
      exact hQ _ _ _ _ _ rfl hP hD hS dX6_under_24

def fX6_setting (M : Mdl) (w : Int32) : Int32 × (Mdl) :=
  let r1 : Int32 := fX6_in w.toInt64 0 12
  if r1 = 0 then
    let r3 : Int32 × (Mdl) := fX6_refuses M (-10000002)
    r3
  else
    ((M.2.2.1 ((11 + w).toNatClampNeg)).toInt32, M)
abbrev rX6_setting : Room := { frames := 1, cells := 0, slots := 0, locals := 25 }
theorem mm_X6_setting_1 : Cond.constantLong RX6 140 (12) ∈ wsX6_setting := List.mem_of_getElem? (i := 1) rfl
theorem mm_X6_setting_3 : Cond.constant RX6 44 (-10000002) ∈ wsX6_setting := List.mem_of_getElem? (i := 3) rfl
theorem mm_X6_setting_2 : Cond.fieldLink RX6 7 "GaugeBoundsModel" "now" "[J" ∈ wsX6_setting := List.mem_of_getElem? (i := 2) rfl
theorem ii_X6_setting_X6 : ∀ w ∈ wsX60, w ∈ wsX6_setting := fun _ h => List.mem_cons_of_mem _ (List.mem_append_right _ (h))
theorem qvX6_setting : yX6_setting.cls = RX6 ∧ yX6_setting.cls ≠ "java/lang/invoke/MethodHandle" ∧ yX6_setting.cls ≠ "java/lang/invoke/VarHandle" ∧ (parseMethodDescriptor yX6_setting.desc).map (fun d => d.parameters.length) = some 1 := by decide +kernel
set_option maxHeartbeats 4000000 in
set_option maxRecDepth 100000 in
theorem kX6_setting (l : Launch) (E : gEnv) (a : Nat → Nat) (M : Mdl) (w : Int32) : gMi l E yX6_setting wsX6_setting rX6_setting [.ref (a 0), .int w] (wM E a M) (fX6_setting M w).1 (wM E a ((fX6_setting M w).2)) := by
  refine gMi_of (cc := cX6_setting) (maxL := 2) (ret := (some .int)) (by decide) rfl rfl (Nat.le_of_ble_eq_true rfl) ?_
  intro p e s m args below meth c A Q ls hB hQ
  obtain ⟨hx, hb, hml, hown, hts, hK, hP, hD, hA, hS, hl⟩ := hB
  have hown : s.vm.findClass RX6 = some m.cls := hown
  have hP : va_P E.1 vwCl [(a 0, .inr (6, [.ref (a 1), .ref (a 2), .ref (a 3), .int (M.1 0), .ref (a 4), .ref (a 5), .int (M.1 1), .int (M.1 2), .int (M.1 3), .ref (a 6), .ref (a 7), .int (M.1 4), .int (M.1 5), .int (M.1 6), .long M.2.1])), (a 1, .inl (eJ E, 68, .inr (.inl M.2.2.1))), (a 2, .inl (eJ E, 68, .inr (.inl M.2.2.2.1))), (a 3, .inl (eJ E, 340, .inr (.inl M.2.2.2.2.1))), (a 4, .inl (eI E, 3, .inl M.2.2.2.2.2.1)), (a 5, .inl (eI E, 120, .inl M.2.2.2.2.2.2.1)), (a 6, .inl (eI E, 60, .inl M.2.2.2.2.2.2.2.1)), (a 7, .inl (eI E, 120, .inl M.2.2.2.2.2.2.2.2))] s.heap := hP
  have hD : va_D A [(a 0, .inr (6, [.ref (a 1), .ref (a 2), .ref (a 3), .int (M.1 0), .ref (a 4), .ref (a 5), .int (M.1 1), .int (M.1 2), .int (M.1 3), .ref (a 6), .ref (a 7), .int (M.1 4), .int (M.1 5), .int (M.1 6), .long M.2.1])), (a 1, .inl (eJ E, 68, .inr (.inl M.2.2.1))), (a 2, .inl (eJ E, 68, .inr (.inl M.2.2.2.1))), (a 3, .inl (eJ E, 340, .inr (.inl M.2.2.2.2.1))), (a 4, .inl (eI E, 3, .inl M.2.2.2.2.2.1)), (a 5, .inl (eI E, 120, .inl M.2.2.2.2.2.2.1)), (a 6, .inl (eI E, 60, .inl M.2.2.2.2.2.2.2.1)), (a 7, .inl (eI E, 120, .inl M.2.2.2.2.2.2.2.2))] := hD
  have hl : lv_has ls 2 [(0, .ref (a 0)), (1, .int w)] := hl
  refine lv_iload_n (pc := 0) hx hb dX6_setting_0 rfl (lv_at hl 1 rfl) ?_
  refine lv_i2l (v := w.toInt64) (pc := 1) hx hb dX6_setting_1 rfl ?_
  refine lv_lconst (v := 0) (pc := 2) hx hb dX6_setting_2 rfl ?_
  refine lv_ldc2 (v := (12)) (pc := 3) hx hb hown (hts _ mm_X6_setting_1) dX6_setting_3 ?_
  obtain ⟨r1, er1⟩ : ∃ z : Int32, fX6_in w.toInt64 0 12 = z := ⟨_, rfl⟩
  have hr1 := kX6_in l E w.toInt64 0 12
  rw [er1] at hr1
  refine gcSi (pc := 6) (As := [.long w.toInt64, .long 0, .long 12]) (rest := []) ⟨hx, hb, hml, hown, hts⟩ hr1 (cwS 3 hts gX6_setting_X6_in rfl rfl rfl qsX6_in ⟨Nat.le_of_ble_eq_true rfl, Nat.le_of_ble_eq_true rfl⟩) hK hP hD hS hA rfl hl.1 rfl (Nat.le_of_ble_eq_true rfl) dX6_setting_6 ⟨Nat.zero_le _, Nat.zero_le _⟩ (fun H locs hP hD hS => ?_)
  refine lv_if_eq (tgt := 25) (pc := 9) hx hb dX6_setting_9 (by decide) (fun c_2 => ?_) (fun c_2 => ?_)
  · refine lv_aload_n (pc := 25) hx hb dX6_setting_25 rfl (lv_at hl 0 rfl) ?_
    refine lv_ldc (v := (-10000002)) (pc := 26) hx hb hown (hts _ mm_X6_setting_3) dX6_setting_26 ?_
    obtain ⟨r3, er3⟩ : ∃ z : Int32 × (Mdl), fX6_refuses M (-10000002) = z := ⟨_, rfl⟩
    have hr3 := kX6_refuses l E a M (-10000002) hv_bad
    rw [er3] at hr3
    refine gcVi (pc := 28) (w1 := [(a 0, .inr (6, [.ref (a 1), .ref (a 2), .ref (a 3), .int (r3.2.1 0), .ref (a 4), .ref (a 5), .int (r3.2.1 1), .int (r3.2.1 2), .int (r3.2.1 3), .ref (a 6), .ref (a 7), .int (r3.2.1 4), .int (r3.2.1 5), .int (r3.2.1 6), .long r3.2.2.1])), (a 1, .inl (eJ E, 68, .inr (.inl r3.2.2.2.1))), (a 2, .inl (eJ E, 68, .inr (.inl r3.2.2.2.2.1))), (a 3, .inl (eJ E, 340, .inr (.inl r3.2.2.2.2.2.1))), (a 4, .inl (eI E, 3, .inl r3.2.2.2.2.2.2.1)), (a 5, .inl (eI E, 120, .inl r3.2.2.2.2.2.2.2.1)), (a 6, .inl (eI E, 60, .inl r3.2.2.2.2.2.2.2.2.1)), (a 7, .inl (eI E, 120, .inl r3.2.2.2.2.2.2.2.2.2))]) (pre := []) (post := []) (As := [.int (-10000002)]) (rest := []) (q0 := 0) ⟨hx, hb, hml, hown, hts⟩ hr3 (cwV 1 hts gX6_setting_X6_refuses rfl rfl rfl qvX6_refuses ⟨Nat.le_of_ble_eq_true rfl, Nat.le_of_ble_eq_true rfl⟩) hK hP hD hS hA rfl rfl rfl rfl rfl hl.1 rfl (Nat.le_of_ble_eq_true rfl) dX6_setting_28 ⟨Nat.zero_le _, Nat.zero_le _⟩ (fun H locs hP hD hS => ?_)
    subst er3
    subst er1
    have hfn : fX6_setting M w = _ := if_pos c_2
    rw [hfn] at hQ
    exact hQ _ _ _ _ _ rfl hP hD hS dX6_setting_31
  · refine lv_aload_n (pc := 12) hx hb dX6_setting_12 rfl (lv_at hl 0 rfl) ?_
    refine g_get (v := .ref (a 1)) (pc := 13) hx hb hts ii_X6_setting_X6 hown hK.1 hP 0 rfl rfl 0 (by decide) ⟨rfl, rfl, rfl⟩ mm_X6_setting_2 rfl dX6_setting_13 ?_
    refine lv_bipush (v := 11) (pc := 16) hx hb dX6_setting_16 rfl ?_
    refine lv_iload_n (pc := 18) hx hb dX6_setting_18 rfl (lv_at hl 1 rfl) ?_
    refine lv_iadd (pc := 19) hx hb dX6_setting_19 ?_
    refine g_lald (j := (11 + w).toNatClampNeg) (v := (M.2.2.1 ((11 + w).toNatClampNeg))) (pc := 20) hx hb hK.1 hP 1 1 rfl rfl (by have h1 : 0 ≤ w.toInt ∧ w.toInt ≤ 12 := (by subst er1; exact in_i c_2); exact ix_o1 11 (by decide) h1.1 (by simp only [Int32.reduceToInt]; omega) (by decide)) rfl rfl dX6_setting_20 ?_
    refine lv_l2i (v := (M.2.2.1 ((11 + w).toNatClampNeg)).toInt32) (pc := 21) hx hb dX6_setting_21 rfl ?_
    refine lv_goto (tgt := 31) (pc := 22) hx hb dX6_setting_22 (by decide) ?_
    subst er1
    have hfn : fX6_setting M w = _ := if_neg c_2
    rw [hfn] at hQ
    exact hQ _ _ _ _ _ rfl hP hD hS dX6_setting_31

def fX6_type (M : Mdl) (v : Int32) : Int32 × (Mdl) :=
  let r1 : Int32 := fX6_in v.toInt64 0 127
  if r1 = 0 then
    let r6 : Int32 × (Mdl) := fX6_refuses M (-10000002)
    r6
  else
    if (M.1 1) = 120 then
      let r5 : Int32 × (Mdl) := fX6_refuses M (-10000004)
      r5
    else
      let x4 : Int32 := (M.1 1) + 1
      (x4, ((upd M.1 1 x4), M.2.1, M.2.2.1, M.2.2.2.1, M.2.2.2.2.1, M.2.2.2.2.2.1, (upd M.2.2.2.2.2.2.1 ((M.1 1).toNatClampNeg) v), M.2.2.2.2.2.2.2.1, M.2.2.2.2.2.2.2.2))
abbrev rX6_type : Room := { frames := 1, cells := 0, slots := 0, locals := 25 }
theorem mm_X6_type_1 : Cond.constantLong RX6 142 (127) ∈ wsX6_type := List.mem_of_getElem? (i := 1) rfl
theorem mm_X6_type_3 : Cond.fieldLink RX6 144 "GaugeBoundsModel" "bytes" "I" ∈ wsX6_type := List.mem_of_getElem? (i := 3) rfl
theorem mm_X6_type_5 : Cond.fieldLink RX6 23 "GaugeBoundsModel" "text" "[I" ∈ wsX6_type := List.mem_of_getElem? (i := 5) rfl
theorem mm_X6_type_4 : Cond.constant RX6 147 (-10000004) ∈ wsX6_type := List.mem_of_getElem? (i := 4) rfl
theorem mm_X6_type_2 : Cond.constant RX6 44 (-10000002) ∈ wsX6_type := List.mem_of_getElem? (i := 2) rfl
theorem ii_X6_type_X6 : ∀ w ∈ wsX60, w ∈ wsX6_type := fun _ h => List.mem_cons_of_mem _ (List.mem_append_right _ (h))
theorem qvX6_type : yX6_type.cls = RX6 ∧ yX6_type.cls ≠ "java/lang/invoke/MethodHandle" ∧ yX6_type.cls ≠ "java/lang/invoke/VarHandle" ∧ (parseMethodDescriptor yX6_type.desc).map (fun d => d.parameters.length) = some 1 := by decide +kernel
set_option maxHeartbeats 4000000 in
set_option maxRecDepth 100000 in
theorem kX6_type (l : Launch) (E : gEnv) (a : Nat → Nat) (M : Mdl) (v : Int32) (hb0 : 0 ≤ (M.1 1).toInt ∧ (M.1 1).toInt ≤ 120) : gMi l E yX6_type wsX6_type rX6_type [.ref (a 0), .int v] (wM E a M) (fX6_type M v).1 (wM E a ((fX6_type M v).2)) := by
  refine gMi_of (cc := cX6_type) (maxL := 2) (ret := (some .int)) (by decide) rfl rfl (Nat.le_of_ble_eq_true rfl) ?_
  intro p e s m args below meth c A Q ls hB hQ
  obtain ⟨hx, hb, hml, hown, hts, hK, hP, hD, hA, hS, hl⟩ := hB
  have hown : s.vm.findClass RX6 = some m.cls := hown
  have hP : va_P E.1 vwCl [(a 0, .inr (6, [.ref (a 1), .ref (a 2), .ref (a 3), .int (M.1 0), .ref (a 4), .ref (a 5), .int (M.1 1), .int (M.1 2), .int (M.1 3), .ref (a 6), .ref (a 7), .int (M.1 4), .int (M.1 5), .int (M.1 6), .long M.2.1])), (a 1, .inl (eJ E, 68, .inr (.inl M.2.2.1))), (a 2, .inl (eJ E, 68, .inr (.inl M.2.2.2.1))), (a 3, .inl (eJ E, 340, .inr (.inl M.2.2.2.2.1))), (a 4, .inl (eI E, 3, .inl M.2.2.2.2.2.1)), (a 5, .inl (eI E, 120, .inl M.2.2.2.2.2.2.1)), (a 6, .inl (eI E, 60, .inl M.2.2.2.2.2.2.2.1)), (a 7, .inl (eI E, 120, .inl M.2.2.2.2.2.2.2.2))] s.heap := hP
  have hD : va_D A [(a 0, .inr (6, [.ref (a 1), .ref (a 2), .ref (a 3), .int (M.1 0), .ref (a 4), .ref (a 5), .int (M.1 1), .int (M.1 2), .int (M.1 3), .ref (a 6), .ref (a 7), .int (M.1 4), .int (M.1 5), .int (M.1 6), .long M.2.1])), (a 1, .inl (eJ E, 68, .inr (.inl M.2.2.1))), (a 2, .inl (eJ E, 68, .inr (.inl M.2.2.2.1))), (a 3, .inl (eJ E, 340, .inr (.inl M.2.2.2.2.1))), (a 4, .inl (eI E, 3, .inl M.2.2.2.2.2.1)), (a 5, .inl (eI E, 120, .inl M.2.2.2.2.2.2.1)), (a 6, .inl (eI E, 60, .inl M.2.2.2.2.2.2.2.1)), (a 7, .inl (eI E, 120, .inl M.2.2.2.2.2.2.2.2))] := hD
  have hl : lv_has ls 2 [(0, .ref (a 0)), (1, .int v)] := hl
  refine lv_iload_n (pc := 0) hx hb dX6_type_0 rfl (lv_at hl 1 rfl) ?_
  refine lv_i2l (v := v.toInt64) (pc := 1) hx hb dX6_type_1 rfl ?_
  refine lv_lconst (v := 0) (pc := 2) hx hb dX6_type_2 rfl ?_
  refine lv_ldc2 (v := (127)) (pc := 3) hx hb hown (hts _ mm_X6_type_1) dX6_type_3 ?_
  obtain ⟨r1, er1⟩ : ∃ z : Int32, fX6_in v.toInt64 0 127 = z := ⟨_, rfl⟩
  have hr1 := kX6_in l E v.toInt64 0 127
  rw [er1] at hr1
  refine gcSi (pc := 6) (As := [.long v.toInt64, .long 0, .long 127]) (rest := []) ⟨hx, hb, hml, hown, hts⟩ hr1 (cwS 3 hts gX6_type_X6_in rfl rfl rfl qsX6_in ⟨Nat.le_of_ble_eq_true rfl, Nat.le_of_ble_eq_true rfl⟩) hK hP hD hS hA rfl hl.1 rfl (Nat.le_of_ble_eq_true rfl) dX6_type_6 ⟨Nat.zero_le _, Nat.zero_le _⟩ (fun H locs hP hD hS => ?_)
  refine lv_if_ne (tgt := 19) (pc := 9) hx hb dX6_type_9 (by decide) (fun c_2 => ?_) (fun c_2 => ?_)
  · refine lv_aload_n (pc := 19) hx hb dX6_type_19 rfl (lv_at hl 0 rfl) ?_
    refine g_get (v := .int (M.1 1)) (pc := 20) hx hb hts ii_X6_type_X6 hown hK.1 hP 0 rfl rfl 6 (by decide) ⟨rfl, rfl, rfl⟩ mm_X6_type_3 rfl dX6_type_20 ?_
    refine lv_bipush (v := 120) (pc := 23) hx hb dX6_type_23 rfl ?_
    refine lv_icmp_ne (tgt := 35) (pc := 25) hx hb dX6_type_25 (by decide) (fun c_3 => ?_) (fun c_3 => ?_)
    · refine lv_aload_n (pc := 35) hx hb dX6_type_35 rfl (lv_at hl 0 rfl) ?_
      refine g_get (v := .ref (a 5)) (pc := 36) hx hb hts ii_X6_type_X6 hown hK.1 hP 0 rfl rfl 5 (by decide) ⟨rfl, rfl, rfl⟩ mm_X6_type_5 rfl dX6_type_36 ?_
      refine lv_aload_n (pc := 39) hx hb dX6_type_39 rfl (lv_at hl 0 rfl) ?_
      refine g_get (v := .int (M.1 1)) (pc := 40) hx hb hts ii_X6_type_X6 hown hK.1 hP 0 rfl rfl 6 (by decide) ⟨rfl, rfl, rfl⟩ mm_X6_type_3 rfl dX6_type_40 ?_
      refine lv_iload_n (pc := 43) hx hb dX6_type_43 rfl (lv_at hl 1 rfl) ?_
      refine g_iast (j := (M.1 1).toNatClampNeg) (w1 := [(a 0, .inr (6, [.ref (a 1), .ref (a 2), .ref (a 3), .int (M.1 0), .ref (a 4), .ref (a 5), .int (M.1 1), .int (M.1 2), .int (M.1 3), .ref (a 6), .ref (a 7), .int (M.1 4), .int (M.1 5), .int (M.1 6), .long M.2.1])), (a 1, .inl (eJ E, 68, .inr (.inl M.2.2.1))), (a 2, .inl (eJ E, 68, .inr (.inl M.2.2.2.1))), (a 3, .inl (eJ E, 340, .inr (.inl M.2.2.2.2.1))), (a 4, .inl (eI E, 3, .inl M.2.2.2.2.2.1)), (a 5, .inl (eI E, 120, .inl (upd M.2.2.2.2.2.2.1 ((M.1 1).toNatClampNeg) v))), (a 6, .inl (eI E, 60, .inl M.2.2.2.2.2.2.2.1)), (a 7, .inl (eI E, 120, .inl M.2.2.2.2.2.2.2.2))]) (pc := 44) hx hb hK.1 hP hD hS 5 0 rfl rfl (ty_in hb0 c_3) rfl rfl dX6_type_44 (fun H locs hP hD hS => ?_)
      refine lv_aload_n (pc := 45) hx hb dX6_type_45 rfl (lv_at hl 0 rfl) ?_
      refine lv_dup (pc := 46) hx hb dX6_type_46 rfl ?_
      refine g_get (v := .int (M.1 1)) (pc := 47) hx hb hts ii_X6_type_X6 hown hK.1 hP 0 rfl rfl 6 (by decide) ⟨rfl, rfl, rfl⟩ mm_X6_type_3 rfl dX6_type_47 ?_
      refine lv_iconst (v := 1) (pc := 50) hx hb dX6_type_50 rfl ?_
      refine lv_iadd (pc := 51) hx hb dX6_type_51 ?_
      refine g_topi (fun x4 ex4 => ?_)
      refine g_put (w1 := [(a 0, .inr (6, [.ref (a 1), .ref (a 2), .ref (a 3), .int (M.1 0), .ref (a 4), .ref (a 5), .int x4, .int (M.1 2), .int (M.1 3), .ref (a 6), .ref (a 7), .int (M.1 4), .int (M.1 5), .int (M.1 6), .long M.2.1])), (a 1, .inl (eJ E, 68, .inr (.inl M.2.2.1))), (a 2, .inl (eJ E, 68, .inr (.inl M.2.2.2.1))), (a 3, .inl (eJ E, 340, .inr (.inl M.2.2.2.2.1))), (a 4, .inl (eI E, 3, .inl M.2.2.2.2.2.1)), (a 5, .inl (eI E, 120, .inl (upd M.2.2.2.2.2.2.1 ((M.1 1).toNatClampNeg) v))), (a 6, .inl (eI E, 60, .inl M.2.2.2.2.2.2.2.1)), (a 7, .inl (eI E, 120, .inl M.2.2.2.2.2.2.2.2))]) (pc := 52) hx hb hts ii_X6_type_X6 tyX6 tyX6_ok nmX6 hown hK.1 hP hD hS 0 rfl rfl 6 (by decide) ⟨rfl, rfl, rfl⟩ mm_X6_type_3 rfl rfl rfl rfl (Nat.le_of_ble_eq_true rfl) rfl dX6_type_52 (fun H locs hP hD hS => ?_)
      refine lv_aload_n (pc := 55) hx hb dX6_type_55 rfl (lv_at hl 0 rfl) ?_
      refine g_get (v := .int x4) (pc := 56) hx hb hts ii_X6_type_X6 hown hK.1 hP 0 rfl rfl 6 (by decide) ⟨rfl, rfl, rfl⟩ mm_X6_type_3 rfl dX6_type_56 ?_
      subst ex4
      subst er1
      have hfn : fX6_type M v = _ := (if_neg c_2).trans (if_neg c_3)
      rw [hfn] at hQ
      exact hQ _ _ _ _ _ rfl hP hD hS dX6_type_59
    · refine lv_aload_n (pc := 28) hx hb dX6_type_28 rfl (lv_at hl 0 rfl) ?_
      refine lv_ldc (v := (-10000004)) (pc := 29) hx hb hown (hts _ mm_X6_type_4) dX6_type_29 ?_
      obtain ⟨r5, er5⟩ : ∃ z : Int32 × (Mdl), fX6_refuses M (-10000004) = z := ⟨_, rfl⟩
      have hr5 := kX6_refuses l E a M (-10000004) hv_full
      rw [er5] at hr5
      refine gcVi (pc := 31) (w1 := [(a 0, .inr (6, [.ref (a 1), .ref (a 2), .ref (a 3), .int (r5.2.1 0), .ref (a 4), .ref (a 5), .int (r5.2.1 1), .int (r5.2.1 2), .int (r5.2.1 3), .ref (a 6), .ref (a 7), .int (r5.2.1 4), .int (r5.2.1 5), .int (r5.2.1 6), .long r5.2.2.1])), (a 1, .inl (eJ E, 68, .inr (.inl r5.2.2.2.1))), (a 2, .inl (eJ E, 68, .inr (.inl r5.2.2.2.2.1))), (a 3, .inl (eJ E, 340, .inr (.inl r5.2.2.2.2.2.1))), (a 4, .inl (eI E, 3, .inl r5.2.2.2.2.2.2.1)), (a 5, .inl (eI E, 120, .inl r5.2.2.2.2.2.2.2.1)), (a 6, .inl (eI E, 60, .inl r5.2.2.2.2.2.2.2.2.1)), (a 7, .inl (eI E, 120, .inl r5.2.2.2.2.2.2.2.2.2))]) (pre := []) (post := []) (As := [.int (-10000004)]) (rest := []) (q0 := 0) ⟨hx, hb, hml, hown, hts⟩ hr5 (cwV 1 hts gX6_type_X6_refuses rfl rfl rfl qvX6_refuses ⟨Nat.le_of_ble_eq_true rfl, Nat.le_of_ble_eq_true rfl⟩) hK hP hD hS hA rfl rfl rfl rfl rfl hl.1 rfl (Nat.le_of_ble_eq_true rfl) dX6_type_31 ⟨Nat.zero_le _, Nat.zero_le _⟩ (fun H locs hP hD hS => ?_)
      subst er5
      subst er1
      have hfn : fX6_type M v = _ := (if_neg c_2).trans (if_pos c_3)
      rw [hfn] at hQ
      exact hQ _ _ _ _ _ rfl hP hD hS dX6_type_34
  · refine lv_aload_n (pc := 12) hx hb dX6_type_12 rfl (lv_at hl 0 rfl) ?_
    refine lv_ldc (v := (-10000002)) (pc := 13) hx hb hown (hts _ mm_X6_type_2) dX6_type_13 ?_
    obtain ⟨r6, er6⟩ : ∃ z : Int32 × (Mdl), fX6_refuses M (-10000002) = z := ⟨_, rfl⟩
    have hr6 := kX6_refuses l E a M (-10000002) hv_bad
    rw [er6] at hr6
    refine gcVi (pc := 15) (w1 := [(a 0, .inr (6, [.ref (a 1), .ref (a 2), .ref (a 3), .int (r6.2.1 0), .ref (a 4), .ref (a 5), .int (r6.2.1 1), .int (r6.2.1 2), .int (r6.2.1 3), .ref (a 6), .ref (a 7), .int (r6.2.1 4), .int (r6.2.1 5), .int (r6.2.1 6), .long r6.2.2.1])), (a 1, .inl (eJ E, 68, .inr (.inl r6.2.2.2.1))), (a 2, .inl (eJ E, 68, .inr (.inl r6.2.2.2.2.1))), (a 3, .inl (eJ E, 340, .inr (.inl r6.2.2.2.2.2.1))), (a 4, .inl (eI E, 3, .inl r6.2.2.2.2.2.2.1)), (a 5, .inl (eI E, 120, .inl r6.2.2.2.2.2.2.2.1)), (a 6, .inl (eI E, 60, .inl r6.2.2.2.2.2.2.2.2.1)), (a 7, .inl (eI E, 120, .inl r6.2.2.2.2.2.2.2.2.2))]) (pre := []) (post := []) (As := [.int (-10000002)]) (rest := []) (q0 := 0) ⟨hx, hb, hml, hown, hts⟩ hr6 (cwV 1 hts gX6_type_X6_refuses rfl rfl rfl qvX6_refuses ⟨Nat.le_of_ble_eq_true rfl, Nat.le_of_ble_eq_true rfl⟩) hK hP hD hS hA rfl rfl rfl rfl rfl hl.1 rfl (Nat.le_of_ble_eq_true rfl) dX6_type_15 ⟨Nat.zero_le _, Nat.zero_le _⟩ (fun H locs hP hD hS => ?_)
    subst er6
    subst er1
    have hfn : fX6_type M v = _ := if_pos c_2
    rw [hfn] at hQ
    exact hQ _ _ _ _ _ rfl hP hD hS dX6_type_18

def fX6_clear (M : Mdl) : Int32 × (Mdl) :=
  let x1 : Int32 := M.1 1
  (x1, ((upd M.1 1 0), M.2.1, M.2.2.1, M.2.2.2.1, M.2.2.2.2.1, M.2.2.2.2.2.1, M.2.2.2.2.2.2.1, M.2.2.2.2.2.2.2.1, M.2.2.2.2.2.2.2.2))
abbrev rX6_clear : Room := { frames := 0, cells := 0, slots := 0, locals := 0 }
theorem mm_X6_clear_1 : Cond.fieldLink RX6 144 "GaugeBoundsModel" "bytes" "I" ∈ wsX6_clear := List.mem_of_getElem? (i := 1) rfl
theorem ii_X6_clear_X6 : ∀ w ∈ wsX60, w ∈ wsX6_clear := fun _ h => List.mem_cons_of_mem _ (List.mem_append_right _ (h))
theorem qvX6_clear : yX6_clear.cls = RX6 ∧ yX6_clear.cls ≠ "java/lang/invoke/MethodHandle" ∧ yX6_clear.cls ≠ "java/lang/invoke/VarHandle" ∧ (parseMethodDescriptor yX6_clear.desc).map (fun d => d.parameters.length) = some 0 := by decide +kernel
set_option maxHeartbeats 4000000 in
set_option maxRecDepth 100000 in
theorem kX6_clear (l : Launch) (E : gEnv) (a : Nat → Nat) (M : Mdl) : gMi l E yX6_clear wsX6_clear rX6_clear [.ref (a 0)] (wM E a M) (fX6_clear M).1 (wM E a ((fX6_clear M).2)) := by
  refine gMi_of (cc := cX6_clear) (maxL := 2) (ret := (some .int)) (by decide) rfl rfl (Nat.le_of_ble_eq_true rfl) ?_
  intro p e s m args below meth c A Q ls hB hQ
  obtain ⟨hx, hb, hml, hown, hts, hK, hP, hD, hA, hS, hl⟩ := hB
  have hown : s.vm.findClass RX6 = some m.cls := hown
  have hP : va_P E.1 vwCl [(a 0, .inr (6, [.ref (a 1), .ref (a 2), .ref (a 3), .int (M.1 0), .ref (a 4), .ref (a 5), .int (M.1 1), .int (M.1 2), .int (M.1 3), .ref (a 6), .ref (a 7), .int (M.1 4), .int (M.1 5), .int (M.1 6), .long M.2.1])), (a 1, .inl (eJ E, 68, .inr (.inl M.2.2.1))), (a 2, .inl (eJ E, 68, .inr (.inl M.2.2.2.1))), (a 3, .inl (eJ E, 340, .inr (.inl M.2.2.2.2.1))), (a 4, .inl (eI E, 3, .inl M.2.2.2.2.2.1)), (a 5, .inl (eI E, 120, .inl M.2.2.2.2.2.2.1)), (a 6, .inl (eI E, 60, .inl M.2.2.2.2.2.2.2.1)), (a 7, .inl (eI E, 120, .inl M.2.2.2.2.2.2.2.2))] s.heap := hP
  have hD : va_D A [(a 0, .inr (6, [.ref (a 1), .ref (a 2), .ref (a 3), .int (M.1 0), .ref (a 4), .ref (a 5), .int (M.1 1), .int (M.1 2), .int (M.1 3), .ref (a 6), .ref (a 7), .int (M.1 4), .int (M.1 5), .int (M.1 6), .long M.2.1])), (a 1, .inl (eJ E, 68, .inr (.inl M.2.2.1))), (a 2, .inl (eJ E, 68, .inr (.inl M.2.2.2.1))), (a 3, .inl (eJ E, 340, .inr (.inl M.2.2.2.2.1))), (a 4, .inl (eI E, 3, .inl M.2.2.2.2.2.1)), (a 5, .inl (eI E, 120, .inl M.2.2.2.2.2.2.1)), (a 6, .inl (eI E, 60, .inl M.2.2.2.2.2.2.2.1)), (a 7, .inl (eI E, 120, .inl M.2.2.2.2.2.2.2.2))] := hD
  have hl : lv_has ls 2 [(0, .ref (a 0))] := hl
  refine lv_aload_n (pc := 0) hx hb dX6_clear_0 rfl (lv_at hl 0 rfl) ?_
  refine g_get (v := .int (M.1 1)) (pc := 1) hx hb hts ii_X6_clear_X6 hown hK.1 hP 0 rfl rfl 6 (by decide) ⟨rfl, rfl, rfl⟩ mm_X6_clear_1 rfl dX6_clear_1 ?_
  refine g_topi (fun x1 ex1 => ?_)
  refine lv_istore_n (lv' := [(1, .int x1), (0, .ref (a 0))]) (pc := 4) hx hb dX6_clear_4 rfl hl (by decide) rfl (fun ls hl => ?_)
  refine lv_aload_n (pc := 5) hx hb dX6_clear_5 rfl (lv_at hl 1 rfl) ?_
  refine lv_iconst (v := 0) (pc := 6) hx hb dX6_clear_6 rfl ?_
  refine g_put (w1 := [(a 0, .inr (6, [.ref (a 1), .ref (a 2), .ref (a 3), .int (M.1 0), .ref (a 4), .ref (a 5), .int 0, .int (M.1 2), .int (M.1 3), .ref (a 6), .ref (a 7), .int (M.1 4), .int (M.1 5), .int (M.1 6), .long M.2.1])), (a 1, .inl (eJ E, 68, .inr (.inl M.2.2.1))), (a 2, .inl (eJ E, 68, .inr (.inl M.2.2.2.1))), (a 3, .inl (eJ E, 340, .inr (.inl M.2.2.2.2.1))), (a 4, .inl (eI E, 3, .inl M.2.2.2.2.2.1)), (a 5, .inl (eI E, 120, .inl M.2.2.2.2.2.2.1)), (a 6, .inl (eI E, 60, .inl M.2.2.2.2.2.2.2.1)), (a 7, .inl (eI E, 120, .inl M.2.2.2.2.2.2.2.2))]) (pc := 7) hx hb hts ii_X6_clear_X6 tyX6 tyX6_ok nmX6 hown hK.1 hP hD hS 0 rfl rfl 6 (by decide) ⟨rfl, rfl, rfl⟩ mm_X6_clear_1 rfl rfl rfl rfl (Nat.le_of_ble_eq_true rfl) rfl dX6_clear_7 (fun H locs hP hD hS => ?_)
  refine lv_iload_n (pc := 10) hx hb dX6_clear_10 rfl (lv_at hl 0 rfl) ?_
  subst ex1
  exact hQ _ _ _ _ _ rfl hP hD hS dX6_clear_11

def fX6_refusedOf (F Z : Nat → Int32) (w : Int32) : Int32 :=
  let x2 : Int32 := (if 3 ≤ w then (if w = 3 then (Z 1) else (Z 0)) else (F w.toNatClampNeg))
  x2
abbrev rX6_refusedOf : Room := { frames := 0, cells := 0, slots := 0, locals := 0 }
theorem mm_X6_refusedOf_3 : Cond.fieldLink RX6 45 "GaugeBoundsModel" "states" "I" ∈ wsX6_refusedOf := List.mem_of_getElem? (i := 3) rfl
theorem mm_X6_refusedOf_2 : Cond.fieldLink RX6 144 "GaugeBoundsModel" "bytes" "I" ∈ wsX6_refusedOf := List.mem_of_getElem? (i := 2) rfl
theorem mm_X6_refusedOf_1 : Cond.fieldLink RX6 19 "GaugeBoundsModel" "refusals" "[I" ∈ wsX6_refusedOf := List.mem_of_getElem? (i := 1) rfl
theorem ii_X6_refusedOf_X6 : ∀ w ∈ wsX60, w ∈ wsX6_refusedOf := fun _ h => List.mem_cons_of_mem _ (List.mem_append_right _ (h))
theorem qvX6_refusedOf : yX6_refusedOf.cls = RX6 ∧ yX6_refusedOf.cls ≠ "java/lang/invoke/MethodHandle" ∧ yX6_refusedOf.cls ≠ "java/lang/invoke/VarHandle" ∧ (parseMethodDescriptor yX6_refusedOf.desc).map (fun d => d.parameters.length) = some 1 := by decide +kernel
set_option maxHeartbeats 4000000 in
set_option maxRecDepth 100000 in
theorem kX6_refusedOf (l : Launch) (E : gEnv) (a : Nat → Nat) (M : Mdl) (w : Int32) (hw : 0 ≤ w.toInt ∧ w.toInt ≤ 4) : gMi l E yX6_refusedOf wsX6_refusedOf rX6_refusedOf [.ref (a 0), .int w] (wM E a M) (fX6_refusedOf M.2.2.2.2.2.1 M.1 w) (wM E a M) := by
  refine gMi_of (cc := cX6_refusedOf) (maxL := 2) (ret := (some .int)) (by decide) rfl rfl (Nat.le_of_ble_eq_true rfl) ?_
  intro p e s m args below meth c A Q ls hB hQ
  obtain ⟨hx, hb, hml, hown, hts, hK, hP, hD, hA, hS, hl⟩ := hB
  have hown : s.vm.findClass RX6 = some m.cls := hown
  have hP : va_P E.1 vwCl [(a 0, .inr (6, [.ref (a 1), .ref (a 2), .ref (a 3), .int (M.1 0), .ref (a 4), .ref (a 5), .int (M.1 1), .int (M.1 2), .int (M.1 3), .ref (a 6), .ref (a 7), .int (M.1 4), .int (M.1 5), .int (M.1 6), .long M.2.1])), (a 1, .inl (eJ E, 68, .inr (.inl M.2.2.1))), (a 2, .inl (eJ E, 68, .inr (.inl M.2.2.2.1))), (a 3, .inl (eJ E, 340, .inr (.inl M.2.2.2.2.1))), (a 4, .inl (eI E, 3, .inl M.2.2.2.2.2.1)), (a 5, .inl (eI E, 120, .inl M.2.2.2.2.2.2.1)), (a 6, .inl (eI E, 60, .inl M.2.2.2.2.2.2.2.1)), (a 7, .inl (eI E, 120, .inl M.2.2.2.2.2.2.2.2))] s.heap := hP
  have hD : va_D A [(a 0, .inr (6, [.ref (a 1), .ref (a 2), .ref (a 3), .int (M.1 0), .ref (a 4), .ref (a 5), .int (M.1 1), .int (M.1 2), .int (M.1 3), .ref (a 6), .ref (a 7), .int (M.1 4), .int (M.1 5), .int (M.1 6), .long M.2.1])), (a 1, .inl (eJ E, 68, .inr (.inl M.2.2.1))), (a 2, .inl (eJ E, 68, .inr (.inl M.2.2.2.1))), (a 3, .inl (eJ E, 340, .inr (.inl M.2.2.2.2.1))), (a 4, .inl (eI E, 3, .inl M.2.2.2.2.2.1)), (a 5, .inl (eI E, 120, .inl M.2.2.2.2.2.2.1)), (a 6, .inl (eI E, 60, .inl M.2.2.2.2.2.2.2.1)), (a 7, .inl (eI E, 120, .inl M.2.2.2.2.2.2.2.2))] := hD
  have hl : lv_has ls 2 [(0, .ref (a 0)), (1, .int w)] := hl
  refine lv_iload_n (pc := 0) hx hb dX6_refusedOf_0 rfl (lv_at hl 1 rfl) ?_
  refine lv_iconst (v := 3) (pc := 1) hx hb dX6_refusedOf_1 rfl ?_
  have J_3 : ∀ (H : Heap) (locs : List Loc) (ls : Array Slot) (x2 : Int32), (if 3 ≤ w then (if w = 3 then (M.1 1) else (M.1 0)) else (M.2.2.2.2.2.1 w.toNatClampNeg)) = x2 → va_P E.1 vwCl [(a 0, .inr (6, [.ref (a 1), .ref (a 2), .ref (a 3), .int (M.1 0), .ref (a 4), .ref (a 5), .int (M.1 1), .int (M.1 2), .int (M.1 3), .ref (a 6), .ref (a 7), .int (M.1 4), .int (M.1 5), .int (M.1 6), .long M.2.1])), (a 1, .inl (eJ E, 68, .inr (.inl M.2.2.1))), (a 2, .inl (eJ E, 68, .inr (.inl M.2.2.2.1))), (a 3, .inl (eJ E, 340, .inr (.inl M.2.2.2.2.1))), (a 4, .inl (eI E, 3, .inl M.2.2.2.2.2.1)), (a 5, .inl (eI E, 120, .inl M.2.2.2.2.2.2.1)), (a 6, .inl (eI E, 60, .inl M.2.2.2.2.2.2.2.1)), (a 7, .inl (eI E, 120, .inl M.2.2.2.2.2.2.2.2))] H → va_D A [(a 0, .inr (6, [.ref (a 1), .ref (a 2), .ref (a 3), .int (M.1 0), .ref (a 4), .ref (a 5), .int (M.1 1), .int (M.1 2), .int (M.1 3), .ref (a 6), .ref (a 7), .int (M.1 4), .int (M.1 5), .int (M.1 6), .long M.2.1])), (a 1, .inl (eJ E, 68, .inr (.inl M.2.2.1))), (a 2, .inl (eJ E, 68, .inr (.inl M.2.2.2.1))), (a 3, .inl (eJ E, 340, .inr (.inl M.2.2.2.2.1))), (a 4, .inl (eI E, 3, .inl M.2.2.2.2.2.1)), (a 5, .inl (eI E, 120, .inl M.2.2.2.2.2.2.1)), (a 6, .inl (eI E, 60, .inl M.2.2.2.2.2.2.2.1)), (a 7, .inl (eI E, 120, .inl M.2.2.2.2.2.2.2.2))] → va_S A s.heap H locs → lv_has ls 2 [(0, .ref (a 0)), (1, .int w)] → W p l e rX6_refusedOf s m args below meth c H locs 0 0 Q (F0 m 30 ls [.int x2]) := by
    intro H locs ls x2 ex2 hP hD hS hl
    subst ex2
    exact hQ _ _ _ _ _ rfl hP hD hS dX6_refusedOf_30
  refine lv_icmp_ge (tgt := 14) (pc := 2) hx hb dX6_refusedOf_2 (by decide) (fun c_1 => ?_) (fun c_1 => ?_)
  · refine lv_iload_n (pc := 14) hx hb dX6_refusedOf_14 rfl (lv_at hl 1 rfl) ?_
    refine lv_iconst (v := 3) (pc := 15) hx hb dX6_refusedOf_15 rfl ?_
    refine lv_icmp_ne (tgt := 26) (pc := 16) hx hb dX6_refusedOf_16 (by decide) (fun c_2 => ?_) (fun c_2 => ?_)
    · refine lv_aload_n (pc := 26) hx hb dX6_refusedOf_26 rfl (lv_at hl 0 rfl) ?_
      refine g_get (v := .int (M.1 0)) (pc := 27) hx hb hts ii_X6_refusedOf_X6 hown hK.1 hP 0 rfl rfl 3 (by decide) ⟨rfl, rfl, rfl⟩ mm_X6_refusedOf_3 rfl dX6_refusedOf_27 ?_
      exact J_3 _ _ _ _ ((if_pos c_1).trans (if_neg c_2)) hP hD hS (lv_sub hl [0, 1] rfl)
    · refine lv_aload_n (pc := 19) hx hb dX6_refusedOf_19 rfl (lv_at hl 0 rfl) ?_
      refine g_get (v := .int (M.1 1)) (pc := 20) hx hb hts ii_X6_refusedOf_X6 hown hK.1 hP 0 rfl rfl 6 (by decide) ⟨rfl, rfl, rfl⟩ mm_X6_refusedOf_2 rfl dX6_refusedOf_20 ?_
      refine lv_goto (tgt := 30) (pc := 23) hx hb dX6_refusedOf_23 (by decide) ?_
      exact J_3 _ _ _ _ ((if_pos c_1).trans (if_pos c_2)) hP hD hS (lv_sub hl [0, 1] rfl)
  · refine lv_aload_n (pc := 5) hx hb dX6_refusedOf_5 rfl (lv_at hl 0 rfl) ?_
    refine g_get (v := .ref (a 4)) (pc := 6) hx hb hts ii_X6_refusedOf_X6 hown hK.1 hP 0 rfl rfl 4 (by decide) ⟨rfl, rfl, rfl⟩ mm_X6_refusedOf_1 rfl dX6_refusedOf_6 ?_
    refine lv_iload_n (pc := 9) hx hb dX6_refusedOf_9 rfl (lv_at hl 1 rfl) ?_
    refine g_iald (j := w.toNatClampNeg) (v := (M.2.2.2.2.2.1 w.toNatClampNeg)) (pc := 10) hx hb hK.1 hP 4 0 rfl rfl (rf_in hw c_1) rfl rfl dX6_refusedOf_10 ?_
    refine lv_goto (tgt := 30) (pc := 11) hx hb dX6_refusedOf_11 (by decide) ?_
    exact J_3 _ _ _ _ (if_neg c_1) hP hD hS (lv_sub hl [0, 1] rfl)

def fX6_refused (M : Mdl) (w : Int32) : Int32 × (Mdl) :=
  let r1 : Int32 := fX6_in w.toInt64 0 4
  if r1 = 0 then
    let r3 : Int32 × (Mdl) := fX6_refuses M (-10000002)
    r3
  else
    let r4 : Int32 := fX6_refusedOf M.2.2.2.2.2.1 M.1 w
    (r4, M)
abbrev rX6_refused : Room := { frames := 1, cells := 0, slots := 0, locals := 25 }
theorem mm_X6_refused_1 : Cond.constantLong RX6 184 (4) ∈ wsX6_refused := List.mem_of_getElem? (i := 1) rfl
theorem mm_X6_refused_2 : Cond.constant RX6 44 (-10000002) ∈ wsX6_refused := List.mem_of_getElem? (i := 2) rfl
theorem qvX6_refused : yX6_refused.cls = RX6 ∧ yX6_refused.cls ≠ "java/lang/invoke/MethodHandle" ∧ yX6_refused.cls ≠ "java/lang/invoke/VarHandle" ∧ (parseMethodDescriptor yX6_refused.desc).map (fun d => d.parameters.length) = some 1 := by decide +kernel
set_option maxHeartbeats 4000000 in
set_option maxRecDepth 100000 in
theorem kX6_refused (l : Launch) (E : gEnv) (a : Nat → Nat) (M : Mdl) (w : Int32) : gMi l E yX6_refused wsX6_refused rX6_refused [.ref (a 0), .int w] (wM E a M) (fX6_refused M w).1 (wM E a ((fX6_refused M w).2)) := by
  refine gMi_of (cc := cX6_refused) (maxL := 2) (ret := (some .int)) (by decide) rfl rfl (Nat.le_of_ble_eq_true rfl) ?_
  intro p e s m args below meth c A Q ls hB hQ
  obtain ⟨hx, hb, hml, hown, hts, hK, hP, hD, hA, hS, hl⟩ := hB
  have hown : s.vm.findClass RX6 = some m.cls := hown
  have hP : va_P E.1 vwCl [(a 0, .inr (6, [.ref (a 1), .ref (a 2), .ref (a 3), .int (M.1 0), .ref (a 4), .ref (a 5), .int (M.1 1), .int (M.1 2), .int (M.1 3), .ref (a 6), .ref (a 7), .int (M.1 4), .int (M.1 5), .int (M.1 6), .long M.2.1])), (a 1, .inl (eJ E, 68, .inr (.inl M.2.2.1))), (a 2, .inl (eJ E, 68, .inr (.inl M.2.2.2.1))), (a 3, .inl (eJ E, 340, .inr (.inl M.2.2.2.2.1))), (a 4, .inl (eI E, 3, .inl M.2.2.2.2.2.1)), (a 5, .inl (eI E, 120, .inl M.2.2.2.2.2.2.1)), (a 6, .inl (eI E, 60, .inl M.2.2.2.2.2.2.2.1)), (a 7, .inl (eI E, 120, .inl M.2.2.2.2.2.2.2.2))] s.heap := hP
  have hD : va_D A [(a 0, .inr (6, [.ref (a 1), .ref (a 2), .ref (a 3), .int (M.1 0), .ref (a 4), .ref (a 5), .int (M.1 1), .int (M.1 2), .int (M.1 3), .ref (a 6), .ref (a 7), .int (M.1 4), .int (M.1 5), .int (M.1 6), .long M.2.1])), (a 1, .inl (eJ E, 68, .inr (.inl M.2.2.1))), (a 2, .inl (eJ E, 68, .inr (.inl M.2.2.2.1))), (a 3, .inl (eJ E, 340, .inr (.inl M.2.2.2.2.1))), (a 4, .inl (eI E, 3, .inl M.2.2.2.2.2.1)), (a 5, .inl (eI E, 120, .inl M.2.2.2.2.2.2.1)), (a 6, .inl (eI E, 60, .inl M.2.2.2.2.2.2.2.1)), (a 7, .inl (eI E, 120, .inl M.2.2.2.2.2.2.2.2))] := hD
  have hl : lv_has ls 2 [(0, .ref (a 0)), (1, .int w)] := hl
  refine lv_iload_n (pc := 0) hx hb dX6_refused_0 rfl (lv_at hl 1 rfl) ?_
  refine lv_i2l (v := w.toInt64) (pc := 1) hx hb dX6_refused_1 rfl ?_
  refine lv_lconst (v := 0) (pc := 2) hx hb dX6_refused_2 rfl ?_
  refine lv_ldc2 (v := (4)) (pc := 3) hx hb hown (hts _ mm_X6_refused_1) dX6_refused_3 ?_
  obtain ⟨r1, er1⟩ : ∃ z : Int32, fX6_in w.toInt64 0 4 = z := ⟨_, rfl⟩
  have hr1 := kX6_in l E w.toInt64 0 4
  rw [er1] at hr1
  refine gcSi (pc := 6) (As := [.long w.toInt64, .long 0, .long 4]) (rest := []) ⟨hx, hb, hml, hown, hts⟩ hr1 (cwS 3 hts gX6_refused_X6_in rfl rfl rfl qsX6_in ⟨Nat.le_of_ble_eq_true rfl, Nat.le_of_ble_eq_true rfl⟩) hK hP hD hS hA rfl hl.1 rfl (Nat.le_of_ble_eq_true rfl) dX6_refused_6 ⟨Nat.zero_le _, Nat.zero_le _⟩ (fun H locs hP hD hS => ?_)
  refine lv_if_eq (tgt := 20) (pc := 9) hx hb dX6_refused_9 (by decide) (fun c_2 => ?_) (fun c_2 => ?_)
  · refine lv_aload_n (pc := 20) hx hb dX6_refused_20 rfl (lv_at hl 0 rfl) ?_
    refine lv_ldc (v := (-10000002)) (pc := 21) hx hb hown (hts _ mm_X6_refused_2) dX6_refused_21 ?_
    obtain ⟨r3, er3⟩ : ∃ z : Int32 × (Mdl), fX6_refuses M (-10000002) = z := ⟨_, rfl⟩
    have hr3 := kX6_refuses l E a M (-10000002) hv_bad
    rw [er3] at hr3
    refine gcVi (pc := 23) (w1 := [(a 0, .inr (6, [.ref (a 1), .ref (a 2), .ref (a 3), .int (r3.2.1 0), .ref (a 4), .ref (a 5), .int (r3.2.1 1), .int (r3.2.1 2), .int (r3.2.1 3), .ref (a 6), .ref (a 7), .int (r3.2.1 4), .int (r3.2.1 5), .int (r3.2.1 6), .long r3.2.2.1])), (a 1, .inl (eJ E, 68, .inr (.inl r3.2.2.2.1))), (a 2, .inl (eJ E, 68, .inr (.inl r3.2.2.2.2.1))), (a 3, .inl (eJ E, 340, .inr (.inl r3.2.2.2.2.2.1))), (a 4, .inl (eI E, 3, .inl r3.2.2.2.2.2.2.1)), (a 5, .inl (eI E, 120, .inl r3.2.2.2.2.2.2.2.1)), (a 6, .inl (eI E, 60, .inl r3.2.2.2.2.2.2.2.2.1)), (a 7, .inl (eI E, 120, .inl r3.2.2.2.2.2.2.2.2.2))]) (pre := []) (post := []) (As := [.int (-10000002)]) (rest := []) (q0 := 0) ⟨hx, hb, hml, hown, hts⟩ hr3 (cwV 1 hts gX6_refused_X6_refuses rfl rfl rfl qvX6_refuses ⟨Nat.le_of_ble_eq_true rfl, Nat.le_of_ble_eq_true rfl⟩) hK hP hD hS hA rfl rfl rfl rfl rfl hl.1 rfl (Nat.le_of_ble_eq_true rfl) dX6_refused_23 ⟨Nat.zero_le _, Nat.zero_le _⟩ (fun H locs hP hD hS => ?_)
    subst er3
    subst er1
    have hfn : fX6_refused M w = _ := if_pos c_2
    rw [hfn] at hQ
    exact hQ _ _ _ _ _ rfl hP hD hS dX6_refused_26
  · refine lv_aload_n (pc := 12) hx hb dX6_refused_12 rfl (lv_at hl 0 rfl) ?_
    refine lv_iload_n (pc := 13) hx hb dX6_refused_13 rfl (lv_at hl 1 rfl) ?_
    obtain ⟨r4, er4⟩ : ∃ z : Int32, fX6_refusedOf M.2.2.2.2.2.1 M.1 w = z := ⟨_, rfl⟩
    have hr4 := kX6_refusedOf l E a M w (by subst er1; exact in_i c_2)
    rw [er4] at hr4
    refine gcVi (pc := 14) (w1 := [(a 0, .inr (6, [.ref (a 1), .ref (a 2), .ref (a 3), .int (M.1 0), .ref (a 4), .ref (a 5), .int (M.1 1), .int (M.1 2), .int (M.1 3), .ref (a 6), .ref (a 7), .int (M.1 4), .int (M.1 5), .int (M.1 6), .long M.2.1])), (a 1, .inl (eJ E, 68, .inr (.inl M.2.2.1))), (a 2, .inl (eJ E, 68, .inr (.inl M.2.2.2.1))), (a 3, .inl (eJ E, 340, .inr (.inl M.2.2.2.2.1))), (a 4, .inl (eI E, 3, .inl M.2.2.2.2.2.1)), (a 5, .inl (eI E, 120, .inl M.2.2.2.2.2.2.1)), (a 6, .inl (eI E, 60, .inl M.2.2.2.2.2.2.2.1)), (a 7, .inl (eI E, 120, .inl M.2.2.2.2.2.2.2.2))]) (pre := []) (post := []) (As := [.int w]) (rest := []) (q0 := 0) ⟨hx, hb, hml, hown, hts⟩ hr4 (cwV 1 hts gX6_refused_X6_refusedOf rfl rfl rfl qvX6_refusedOf ⟨Nat.le_of_ble_eq_true rfl, Nat.le_of_ble_eq_true rfl⟩) hK hP hD hS hA rfl rfl rfl rfl rfl hl.1 rfl (Nat.le_of_ble_eq_true rfl) dX6_refused_14 ⟨Nat.zero_le _, Nat.zero_le _⟩ (fun H locs hP hD hS => ?_)
    refine lv_goto (tgt := 26) (pc := 17) hx hb dX6_refused_17 (by decide) ?_
    subst er4
    subst er1
    have hfn : fX6_refused M w = _ := if_neg c_2
    rw [hfn] at hQ
    exact hQ _ _ _ _ _ rfl hP hD hS dX6_refused_26

def fX6_mix (M : Mdl) (v : Int64) : Mdl :=
  let x1 : Int64 := (31 * M.2.1) + v
  (M.1, x1, M.2.2.1, M.2.2.2.1, M.2.2.2.2.1, M.2.2.2.2.2.1, M.2.2.2.2.2.2.1, M.2.2.2.2.2.2.2.1, M.2.2.2.2.2.2.2.2)
abbrev rX6_mix : Room := { frames := 0, cells := 0, slots := 0, locals := 0 }
theorem mm_X6_mix_1 : Cond.constantLong RX6 189 (31) ∈ wsX6_mix := List.mem_of_getElem? (i := 1) rfl
theorem mm_X6_mix_2 : Cond.fieldLink RX6 191 "GaugeBoundsModel" "hash" "J" ∈ wsX6_mix := List.mem_of_getElem? (i := 2) rfl
theorem ii_X6_mix_X6 : ∀ w ∈ wsX60, w ∈ wsX6_mix := fun _ h => List.mem_cons_of_mem _ (List.mem_append_right _ (h))
theorem qvX6_mix : yX6_mix.cls = RX6 ∧ yX6_mix.cls ≠ "java/lang/invoke/MethodHandle" ∧ yX6_mix.cls ≠ "java/lang/invoke/VarHandle" ∧ (parseMethodDescriptor yX6_mix.desc).map (fun d => d.parameters.length) = some 1 := by decide +kernel
set_option maxHeartbeats 4000000 in
set_option maxRecDepth 100000 in
theorem kX6_mix (l : Launch) (E : gEnv) (a : Nat → Nat) (M : Mdl) (v : Int64) : gMv l E yX6_mix wsX6_mix rX6_mix [.ref (a 0), .long v] (wM E a M) (wM E a (fX6_mix M v)) := by
  refine gMv_of (cc := cX6_mix) (maxL := 3) (ret := none) (by decide) rfl rfl (Nat.le_of_ble_eq_true rfl) ?_
  intro p e s m args below meth c A Q ls hB hQ
  obtain ⟨hx, hb, hml, hown, hts, hK, hP, hD, hA, hS, hl⟩ := hB
  have hown : s.vm.findClass RX6 = some m.cls := hown
  have hP : va_P E.1 vwCl [(a 0, .inr (6, [.ref (a 1), .ref (a 2), .ref (a 3), .int (M.1 0), .ref (a 4), .ref (a 5), .int (M.1 1), .int (M.1 2), .int (M.1 3), .ref (a 6), .ref (a 7), .int (M.1 4), .int (M.1 5), .int (M.1 6), .long M.2.1])), (a 1, .inl (eJ E, 68, .inr (.inl M.2.2.1))), (a 2, .inl (eJ E, 68, .inr (.inl M.2.2.2.1))), (a 3, .inl (eJ E, 340, .inr (.inl M.2.2.2.2.1))), (a 4, .inl (eI E, 3, .inl M.2.2.2.2.2.1)), (a 5, .inl (eI E, 120, .inl M.2.2.2.2.2.2.1)), (a 6, .inl (eI E, 60, .inl M.2.2.2.2.2.2.2.1)), (a 7, .inl (eI E, 120, .inl M.2.2.2.2.2.2.2.2))] s.heap := hP
  have hD : va_D A [(a 0, .inr (6, [.ref (a 1), .ref (a 2), .ref (a 3), .int (M.1 0), .ref (a 4), .ref (a 5), .int (M.1 1), .int (M.1 2), .int (M.1 3), .ref (a 6), .ref (a 7), .int (M.1 4), .int (M.1 5), .int (M.1 6), .long M.2.1])), (a 1, .inl (eJ E, 68, .inr (.inl M.2.2.1))), (a 2, .inl (eJ E, 68, .inr (.inl M.2.2.2.1))), (a 3, .inl (eJ E, 340, .inr (.inl M.2.2.2.2.1))), (a 4, .inl (eI E, 3, .inl M.2.2.2.2.2.1)), (a 5, .inl (eI E, 120, .inl M.2.2.2.2.2.2.1)), (a 6, .inl (eI E, 60, .inl M.2.2.2.2.2.2.2.1)), (a 7, .inl (eI E, 120, .inl M.2.2.2.2.2.2.2.2))] := hD
  have hl : lv_has ls 3 [(0, .ref (a 0)), (1, .long v)] := hl
  refine lv_aload_n (pc := 0) hx hb dX6_mix_0 rfl (lv_at hl 0 rfl) ?_
  refine lv_ldc2 (v := (31)) (pc := 1) hx hb hown (hts _ mm_X6_mix_1) dX6_mix_1 ?_
  refine lv_aload_n (pc := 4) hx hb dX6_mix_4 rfl (lv_at hl 0 rfl) ?_
  refine g_get (v := .long M.2.1) (pc := 5) hx hb hts ii_X6_mix_X6 hown hK.1 hP 0 rfl rfl 14 (by decide) ⟨rfl, rfl, rfl⟩ mm_X6_mix_2 rfl dX6_mix_5 ?_
  refine lv_lmul (pc := 8) hx hb dX6_mix_8 ?_
  refine lv_lload_n (pc := 9) hx hb dX6_mix_9 rfl (lv_at hl 1 rfl) ?_
  refine lv_ladd (pc := 10) hx hb dX6_mix_10 ?_
  refine g_topl (fun x1 ex1 => ?_)
  refine g_put (w1 := [(a 0, .inr (6, [.ref (a 1), .ref (a 2), .ref (a 3), .int (M.1 0), .ref (a 4), .ref (a 5), .int (M.1 1), .int (M.1 2), .int (M.1 3), .ref (a 6), .ref (a 7), .int (M.1 4), .int (M.1 5), .int (M.1 6), .long x1])), (a 1, .inl (eJ E, 68, .inr (.inl M.2.2.1))), (a 2, .inl (eJ E, 68, .inr (.inl M.2.2.2.1))), (a 3, .inl (eJ E, 340, .inr (.inl M.2.2.2.2.1))), (a 4, .inl (eI E, 3, .inl M.2.2.2.2.2.1)), (a 5, .inl (eI E, 120, .inl M.2.2.2.2.2.2.1)), (a 6, .inl (eI E, 60, .inl M.2.2.2.2.2.2.2.1)), (a 7, .inl (eI E, 120, .inl M.2.2.2.2.2.2.2.2))]) (pc := 11) hx hb hts ii_X6_mix_X6 tyX6 tyX6_ok nmX6 hown hK.1 hP hD hS 0 rfl rfl 14 (by decide) ⟨rfl, rfl, rfl⟩ mm_X6_mix_2 rfl rfl rfl rfl (Nat.le_of_ble_eq_true rfl) rfl dX6_mix_11 (fun H locs hP hD hS => ?_)
  subst ex1
  exact hQ _ _ _ _ hP hD hS dX6_mix_14

noncomputable def lpH (f : Nat → Int64) (h : Int64) (n : Nat) : Int64 := it h (fun i q => (31 * q) + f i) n
theorem lpH_0 (f : Nat → Int64) (h : Int64) : lpH f h 0 = h := it_0 _ _
theorem lpH_s (f : Nat → Int64) (h : Int64) (i : Nat) : lpH f h (i + 1) = (31 * lpH f h i) + f i := it_s _ _ i
noncomputable def lpH2 (f g : Nat → Int64) (h : Int64) (n : Nat) : Int64 := it h (fun i q => (31 * ((31 * q) + f i)) + g i) n
theorem lpH2_0 (f g : Nat → Int64) (h : Int64) : lpH2 f g h 0 = h := it_0 _ _
theorem lpH2_s (f g : Nat → Int64) (h : Int64) (i : Nat) : lpH2 f g h (i + 1) = (31 * ((31 * lpH2 f g h i) + f i)) + g i := it_s _ _ i

noncomputable def fX6_digest (M : Mdl) : Int64 × (Mdl) :=
  let r16 : Int32 := fX6_bands M.2.2.1
  ((lpH2 (fun i => (fX6_lastsBy M.2.2.1 (nI (1 + i)) 0).toInt64) (fun i => (fX6_lastsBy M.2.2.1 (nI (1 + i)) 1).toInt64) (lpH2 (fun i => (fX6_bandOf M.2.2.1 (nI i) 0).toInt64) (fun i => (fX6_bandOf M.2.2.1 (nI i) 1).toInt64) ((31 * (lpH (fun i => M.2.2.1 (11 + i)) (lpH (fun i => (fX6_toldOf M.2.2.1 (nI i)).toInt64) (lpH (fun i => (fX6_refusedOf M.2.2.2.2.2.1 M.1 (nI i)).toInt64) 1690 5) 12) 13)) + r16.toInt64) 22) 3), (M.1, (lpH2 (fun i => (fX6_lastsBy M.2.2.1 (nI (1 + i)) 0).toInt64) (fun i => (fX6_lastsBy M.2.2.1 (nI (1 + i)) 1).toInt64) (lpH2 (fun i => (fX6_bandOf M.2.2.1 (nI i) 0).toInt64) (fun i => (fX6_bandOf M.2.2.1 (nI i) 1).toInt64) ((31 * (lpH (fun i => M.2.2.1 (11 + i)) (lpH (fun i => (fX6_toldOf M.2.2.1 (nI i)).toInt64) (lpH (fun i => (fX6_refusedOf M.2.2.2.2.2.1 M.1 (nI i)).toInt64) 1690 5) 12) 13)) + r16.toInt64) 22) 3), M.2.2.1, M.2.2.2.1, M.2.2.2.2.1, M.2.2.2.2.2.1, M.2.2.2.2.2.2.1, M.2.2.2.2.2.2.2.1, M.2.2.2.2.2.2.2.2))
abbrev rX6_digest : Room := { frames := 2, cells := 0, slots := 0, locals := 45 }
theorem mm_X6_digest_1 : Cond.constantLong RX6 195 (1690) ∈ wsX6_digest := List.mem_of_getElem? (i := 1) rfl
theorem mm_X6_digest_2 : Cond.fieldLink RX6 191 "GaugeBoundsModel" "hash" "J" ∈ wsX6_digest := List.mem_of_getElem? (i := 2) rfl
theorem mm_X6_digest_3 : Cond.fieldLink RX6 7 "GaugeBoundsModel" "now" "[J" ∈ wsX6_digest := List.mem_of_getElem? (i := 3) rfl
theorem ii_X6_digest_X6 : ∀ w ∈ wsX60, w ∈ wsX6_digest := fun _ h => List.mem_cons_of_mem _ (List.mem_append_right _ (h))
theorem qvX6_digest : yX6_digest.cls = RX6 ∧ yX6_digest.cls ≠ "java/lang/invoke/MethodHandle" ∧ yX6_digest.cls ≠ "java/lang/invoke/VarHandle" ∧ (parseMethodDescriptor yX6_digest.desc).map (fun d => d.parameters.length) = some 0 := by decide +kernel
set_option maxHeartbeats 4000000 in
set_option maxRecDepth 100000 in
theorem kX6_digest (l : Launch) (E : gEnv) (a : Nat → Nat) (M : Mdl) (ho : 0 ≤ (M.2.2.1 11).toInt ∧ (M.2.2.1 11).toInt ≤ 9) : gMl l E yX6_digest wsX6_digest rX6_digest [.ref (a 0)] (wM E a M) (fX6_digest M).1 (wM E a ((fX6_digest M).2)) := by
  refine gMl_of (cc := cX6_digest) (maxL := 2) (ret := (some .long)) (by decide) rfl rfl (Nat.le_of_ble_eq_true rfl) ?_
  intro p e s m args below meth c A Q ls hB hQ
  obtain ⟨hx, hb, hml, hown, hts, hK, hP, hD, hA, hS, hl⟩ := hB
  have hown : s.vm.findClass RX6 = some m.cls := hown
  have hP : va_P E.1 vwCl [(a 0, .inr (6, [.ref (a 1), .ref (a 2), .ref (a 3), .int (M.1 0), .ref (a 4), .ref (a 5), .int (M.1 1), .int (M.1 2), .int (M.1 3), .ref (a 6), .ref (a 7), .int (M.1 4), .int (M.1 5), .int (M.1 6), .long M.2.1])), (a 1, .inl (eJ E, 68, .inr (.inl M.2.2.1))), (a 2, .inl (eJ E, 68, .inr (.inl M.2.2.2.1))), (a 3, .inl (eJ E, 340, .inr (.inl M.2.2.2.2.1))), (a 4, .inl (eI E, 3, .inl M.2.2.2.2.2.1)), (a 5, .inl (eI E, 120, .inl M.2.2.2.2.2.2.1)), (a 6, .inl (eI E, 60, .inl M.2.2.2.2.2.2.2.1)), (a 7, .inl (eI E, 120, .inl M.2.2.2.2.2.2.2.2))] s.heap := hP
  have hD : va_D A [(a 0, .inr (6, [.ref (a 1), .ref (a 2), .ref (a 3), .int (M.1 0), .ref (a 4), .ref (a 5), .int (M.1 1), .int (M.1 2), .int (M.1 3), .ref (a 6), .ref (a 7), .int (M.1 4), .int (M.1 5), .int (M.1 6), .long M.2.1])), (a 1, .inl (eJ E, 68, .inr (.inl M.2.2.1))), (a 2, .inl (eJ E, 68, .inr (.inl M.2.2.2.1))), (a 3, .inl (eJ E, 340, .inr (.inl M.2.2.2.2.1))), (a 4, .inl (eI E, 3, .inl M.2.2.2.2.2.1)), (a 5, .inl (eI E, 120, .inl M.2.2.2.2.2.2.1)), (a 6, .inl (eI E, 60, .inl M.2.2.2.2.2.2.2.1)), (a 7, .inl (eI E, 120, .inl M.2.2.2.2.2.2.2.2))] := hD
  have hl : lv_has ls 2 [(0, .ref (a 0))] := hl
  refine lv_aload_n (pc := 0) hx hb dX6_digest_0 rfl (lv_at hl 0 rfl) ?_
  refine lv_ldc2 (v := (1690)) (pc := 1) hx hb hown (hts _ mm_X6_digest_1) dX6_digest_1 ?_
  refine g_put (w1 := [(a 0, .inr (6, [.ref (a 1), .ref (a 2), .ref (a 3), .int (M.1 0), .ref (a 4), .ref (a 5), .int (M.1 1), .int (M.1 2), .int (M.1 3), .ref (a 6), .ref (a 7), .int (M.1 4), .int (M.1 5), .int (M.1 6), .long 1690])), (a 1, .inl (eJ E, 68, .inr (.inl M.2.2.1))), (a 2, .inl (eJ E, 68, .inr (.inl M.2.2.2.1))), (a 3, .inl (eJ E, 340, .inr (.inl M.2.2.2.2.1))), (a 4, .inl (eI E, 3, .inl M.2.2.2.2.2.1)), (a 5, .inl (eI E, 120, .inl M.2.2.2.2.2.2.1)), (a 6, .inl (eI E, 60, .inl M.2.2.2.2.2.2.2.1)), (a 7, .inl (eI E, 120, .inl M.2.2.2.2.2.2.2.2))]) (pc := 4) hx hb hts ii_X6_digest_X6 tyX6 tyX6_ok nmX6 hown hK.1 hP hD hS 0 rfl rfl 14 (by decide) ⟨rfl, rfl, rfl⟩ mm_X6_digest_2 rfl rfl rfl rfl (Nat.le_of_ble_eq_true rfl) rfl dX6_digest_4 (fun H locs hP hD hS => ?_)
  refine lv_iconst (v := 0) (pc := 7) hx hb dX6_digest_7 rfl ?_
  refine lv_istore_n (lv' := [(1, .int 0), (0, .ref (a 0))]) (pc := 8) hx hb dX6_digest_8 rfl hl (by decide) rfl (fun ls hl => ?_)
  have loop4 : ∀ (n2 i1 : Nat), i1 + n2 = 5 → ∀ (H : Heap) (locs : List Loc) (ls : Array Slot), va_P E.1 vwCl [(a 0, .inr (6, [.ref (a 1), .ref (a 2), .ref (a 3), .int (M.1 0), .ref (a 4), .ref (a 5), .int (M.1 1), .int (M.1 2), .int (M.1 3), .ref (a 6), .ref (a 7), .int (M.1 4), .int (M.1 5), .int (M.1 6), .long (lpH (fun i => (fX6_refusedOf M.2.2.2.2.2.1 M.1 (nI i)).toInt64) 1690 i1)])), (a 1, .inl (eJ E, 68, .inr (.inl M.2.2.1))), (a 2, .inl (eJ E, 68, .inr (.inl M.2.2.2.1))), (a 3, .inl (eJ E, 340, .inr (.inl M.2.2.2.2.1))), (a 4, .inl (eI E, 3, .inl M.2.2.2.2.2.1)), (a 5, .inl (eI E, 120, .inl M.2.2.2.2.2.2.1)), (a 6, .inl (eI E, 60, .inl M.2.2.2.2.2.2.2.1)), (a 7, .inl (eI E, 120, .inl M.2.2.2.2.2.2.2.2))] H → va_D A [(a 0, .inr (6, [.ref (a 1), .ref (a 2), .ref (a 3), .int (M.1 0), .ref (a 4), .ref (a 5), .int (M.1 1), .int (M.1 2), .int (M.1 3), .ref (a 6), .ref (a 7), .int (M.1 4), .int (M.1 5), .int (M.1 6), .long (lpH (fun i => (fX6_refusedOf M.2.2.2.2.2.1 M.1 (nI i)).toInt64) 1690 i1)])), (a 1, .inl (eJ E, 68, .inr (.inl M.2.2.1))), (a 2, .inl (eJ E, 68, .inr (.inl M.2.2.2.1))), (a 3, .inl (eJ E, 340, .inr (.inl M.2.2.2.2.1))), (a 4, .inl (eI E, 3, .inl M.2.2.2.2.2.1)), (a 5, .inl (eI E, 120, .inl M.2.2.2.2.2.2.1)), (a 6, .inl (eI E, 60, .inl M.2.2.2.2.2.2.2.1)), (a 7, .inl (eI E, 120, .inl M.2.2.2.2.2.2.2.2))] → va_S A s.heap H locs → lv_has ls 2 [(0, .ref (a 0)), (1, .int (nI i1))] → W p l e rX6_digest s m args below meth c H locs 0 0 Q (F0 m 9 ls []) := by
    intro n2
    induction n2 with
    | zero =>
      intro i1 hi H locs ls hP hD hS hl
      obtain rfl : i1 = 5 := by omega
      refine lv_iload_n (pc := 9) hx hb dX6_digest_9 rfl (lv_at hl 1 rfl) ?_
      refine lv_iconst (v := 5) (pc := 10) hx hb dX6_digest_10 rfl ?_
      refine lv_icmp_ge (tgt := 30) (pc := 11) hx hb dX6_digest_11 (by decide) (fun c_5 => ?_) (fun c_5 => ?_)
      rotate_left
      · exact absurd (nI_le (a := 5) (b := 5) (by decide) (by decide)) c_5
      refine lv_iconst (v := 0) (pc := 30) hx hb dX6_digest_30 rfl ?_
      refine lv_istore_n (lv' := [(1, .int 0), (0, .ref (a 0))]) (pc := 31) hx hb dX6_digest_31 rfl hl (by decide) rfl (fun ls hl => ?_)
      have loop9 : ∀ (n7 i6 : Nat), i6 + n7 = 12 → ∀ (H : Heap) (locs : List Loc) (ls : Array Slot), va_P E.1 vwCl [(a 0, .inr (6, [.ref (a 1), .ref (a 2), .ref (a 3), .int (M.1 0), .ref (a 4), .ref (a 5), .int (M.1 1), .int (M.1 2), .int (M.1 3), .ref (a 6), .ref (a 7), .int (M.1 4), .int (M.1 5), .int (M.1 6), .long (lpH (fun i => (fX6_toldOf M.2.2.1 (nI i)).toInt64) (lpH (fun i => (fX6_refusedOf M.2.2.2.2.2.1 M.1 (nI i)).toInt64) 1690 5) i6)])), (a 1, .inl (eJ E, 68, .inr (.inl M.2.2.1))), (a 2, .inl (eJ E, 68, .inr (.inl M.2.2.2.1))), (a 3, .inl (eJ E, 340, .inr (.inl M.2.2.2.2.1))), (a 4, .inl (eI E, 3, .inl M.2.2.2.2.2.1)), (a 5, .inl (eI E, 120, .inl M.2.2.2.2.2.2.1)), (a 6, .inl (eI E, 60, .inl M.2.2.2.2.2.2.2.1)), (a 7, .inl (eI E, 120, .inl M.2.2.2.2.2.2.2.2))] H → va_D A [(a 0, .inr (6, [.ref (a 1), .ref (a 2), .ref (a 3), .int (M.1 0), .ref (a 4), .ref (a 5), .int (M.1 1), .int (M.1 2), .int (M.1 3), .ref (a 6), .ref (a 7), .int (M.1 4), .int (M.1 5), .int (M.1 6), .long (lpH (fun i => (fX6_toldOf M.2.2.1 (nI i)).toInt64) (lpH (fun i => (fX6_refusedOf M.2.2.2.2.2.1 M.1 (nI i)).toInt64) 1690 5) i6)])), (a 1, .inl (eJ E, 68, .inr (.inl M.2.2.1))), (a 2, .inl (eJ E, 68, .inr (.inl M.2.2.2.1))), (a 3, .inl (eJ E, 340, .inr (.inl M.2.2.2.2.1))), (a 4, .inl (eI E, 3, .inl M.2.2.2.2.2.1)), (a 5, .inl (eI E, 120, .inl M.2.2.2.2.2.2.1)), (a 6, .inl (eI E, 60, .inl M.2.2.2.2.2.2.2.1)), (a 7, .inl (eI E, 120, .inl M.2.2.2.2.2.2.2.2))] → va_S A s.heap H locs → lv_has ls 2 [(0, .ref (a 0)), (1, .int (nI i6))] → W p l e rX6_digest s m args below meth c H locs 0 0 Q (F0 m 32 ls []) := by
        intro n7
        induction n7 with
        | zero =>
          intro i6 hi H locs ls hP hD hS hl
          obtain rfl : i6 = 12 := by omega
          refine lv_iload_n (pc := 32) hx hb dX6_digest_32 rfl (lv_at hl 1 rfl) ?_
          refine lv_bipush (v := 12) (pc := 33) hx hb dX6_digest_33 rfl ?_
          refine lv_icmp_ge (tgt := 54) (pc := 35) hx hb dX6_digest_35 (by decide) (fun c_10 => ?_) (fun c_10 => ?_)
          rotate_left
          · exact absurd (nI_le (a := 12) (b := 12) (by decide) (by decide)) c_10
          refine lv_iconst (v := 0) (pc := 54) hx hb dX6_digest_54 rfl ?_
          refine lv_istore_n (lv' := [(1, .int 0), (0, .ref (a 0))]) (pc := 55) hx hb dX6_digest_55 rfl hl (by decide) rfl (fun ls hl => ?_)
          have loop14 : ∀ (n12 i11 : Nat), i11 + n12 = 13 → ∀ (H : Heap) (locs : List Loc) (ls : Array Slot), va_P E.1 vwCl [(a 0, .inr (6, [.ref (a 1), .ref (a 2), .ref (a 3), .int (M.1 0), .ref (a 4), .ref (a 5), .int (M.1 1), .int (M.1 2), .int (M.1 3), .ref (a 6), .ref (a 7), .int (M.1 4), .int (M.1 5), .int (M.1 6), .long (lpH (fun i => M.2.2.1 (11 + i)) (lpH (fun i => (fX6_toldOf M.2.2.1 (nI i)).toInt64) (lpH (fun i => (fX6_refusedOf M.2.2.2.2.2.1 M.1 (nI i)).toInt64) 1690 5) 12) i11)])), (a 1, .inl (eJ E, 68, .inr (.inl M.2.2.1))), (a 2, .inl (eJ E, 68, .inr (.inl M.2.2.2.1))), (a 3, .inl (eJ E, 340, .inr (.inl M.2.2.2.2.1))), (a 4, .inl (eI E, 3, .inl M.2.2.2.2.2.1)), (a 5, .inl (eI E, 120, .inl M.2.2.2.2.2.2.1)), (a 6, .inl (eI E, 60, .inl M.2.2.2.2.2.2.2.1)), (a 7, .inl (eI E, 120, .inl M.2.2.2.2.2.2.2.2))] H → va_D A [(a 0, .inr (6, [.ref (a 1), .ref (a 2), .ref (a 3), .int (M.1 0), .ref (a 4), .ref (a 5), .int (M.1 1), .int (M.1 2), .int (M.1 3), .ref (a 6), .ref (a 7), .int (M.1 4), .int (M.1 5), .int (M.1 6), .long (lpH (fun i => M.2.2.1 (11 + i)) (lpH (fun i => (fX6_toldOf M.2.2.1 (nI i)).toInt64) (lpH (fun i => (fX6_refusedOf M.2.2.2.2.2.1 M.1 (nI i)).toInt64) 1690 5) 12) i11)])), (a 1, .inl (eJ E, 68, .inr (.inl M.2.2.1))), (a 2, .inl (eJ E, 68, .inr (.inl M.2.2.2.1))), (a 3, .inl (eJ E, 340, .inr (.inl M.2.2.2.2.1))), (a 4, .inl (eI E, 3, .inl M.2.2.2.2.2.1)), (a 5, .inl (eI E, 120, .inl M.2.2.2.2.2.2.1)), (a 6, .inl (eI E, 60, .inl M.2.2.2.2.2.2.2.1)), (a 7, .inl (eI E, 120, .inl M.2.2.2.2.2.2.2.2))] → va_S A s.heap H locs → lv_has ls 2 [(0, .ref (a 0)), (1, .int (nI i11))] → W p l e rX6_digest s m args below meth c H locs 0 0 Q (F0 m 56 ls []) := by
            intro n12
            induction n12 with
            | zero =>
              intro i11 hi H locs ls hP hD hS hl
              obtain rfl : i11 = 13 := by omega
              refine lv_iload_n (pc := 56) hx hb dX6_digest_56 rfl (lv_at hl 1 rfl) ?_
              refine lv_bipush (v := 13) (pc := 57) hx hb dX6_digest_57 rfl ?_
              refine lv_icmp_ge (tgt := 81) (pc := 59) hx hb dX6_digest_59 (by decide) (fun c_15 => ?_) (fun c_15 => ?_)
              rotate_left
              · exact absurd (nI_le (a := 13) (b := 13) (by decide) (by decide)) c_15
              refine lv_aload_n (pc := 81) hx hb dX6_digest_81 rfl (lv_at hl 0 rfl) ?_
              refine lv_aload_n (pc := 82) hx hb dX6_digest_82 rfl (lv_at hl 0 rfl) ?_
              obtain ⟨r16, er16⟩ : ∃ z : Int32, fX6_bands M.2.2.1 = z := ⟨_, rfl⟩
              have hr16 := kX6_bands l E a (M.1, (lpH (fun i => M.2.2.1 (11 + i)) (lpH (fun i => (fX6_toldOf M.2.2.1 (nI i)).toInt64) (lpH (fun i => (fX6_refusedOf M.2.2.2.2.2.1 M.1 (nI i)).toInt64) 1690 5) 12) 13), M.2.2.1, M.2.2.2.1, M.2.2.2.2.1, M.2.2.2.2.2.1, M.2.2.2.2.2.2.1, M.2.2.2.2.2.2.2.1, M.2.2.2.2.2.2.2.2)
              dsimp only at hr16
              rw [er16] at hr16
              refine gcVi (pc := 83) (w1 := [(a 0, .inr (6, [.ref (a 1), .ref (a 2), .ref (a 3), .int (M.1 0), .ref (a 4), .ref (a 5), .int (M.1 1), .int (M.1 2), .int (M.1 3), .ref (a 6), .ref (a 7), .int (M.1 4), .int (M.1 5), .int (M.1 6), .long (lpH (fun i => M.2.2.1 (11 + i)) (lpH (fun i => (fX6_toldOf M.2.2.1 (nI i)).toInt64) (lpH (fun i => (fX6_refusedOf M.2.2.2.2.2.1 M.1 (nI i)).toInt64) 1690 5) 12) 13)])), (a 1, .inl (eJ E, 68, .inr (.inl M.2.2.1))), (a 2, .inl (eJ E, 68, .inr (.inl M.2.2.2.1))), (a 3, .inl (eJ E, 340, .inr (.inl M.2.2.2.2.1))), (a 4, .inl (eI E, 3, .inl M.2.2.2.2.2.1)), (a 5, .inl (eI E, 120, .inl M.2.2.2.2.2.2.1)), (a 6, .inl (eI E, 60, .inl M.2.2.2.2.2.2.2.1)), (a 7, .inl (eI E, 120, .inl M.2.2.2.2.2.2.2.2))]) (pre := []) (post := []) (As := []) (rest := [.ref (a 0)]) (q0 := 0) ⟨hx, hb, hml, hown, hts⟩ hr16 (cwV 0 hts gX6_digest_X6_bands rfl rfl rfl qvX6_bands ⟨Nat.le_of_ble_eq_true rfl, Nat.le_of_ble_eq_true rfl⟩) hK hP hD hS hA rfl rfl rfl rfl rfl hl.1 rfl (Nat.le_of_ble_eq_true rfl) dX6_digest_83 ⟨Nat.zero_le _, Nat.zero_le _⟩ (fun H locs hP hD hS => ?_)
              refine lv_i2l (v := r16.toInt64) (pc := 86) hx hb dX6_digest_86 rfl ?_
              have hr17 := kX6_mix l E a (M.1, (lpH (fun i => M.2.2.1 (11 + i)) (lpH (fun i => (fX6_toldOf M.2.2.1 (nI i)).toInt64) (lpH (fun i => (fX6_refusedOf M.2.2.2.2.2.1 M.1 (nI i)).toInt64) 1690 5) 12) 13), M.2.2.1, M.2.2.2.1, M.2.2.2.2.1, M.2.2.2.2.2.1, M.2.2.2.2.2.2.1, M.2.2.2.2.2.2.2.1, M.2.2.2.2.2.2.2.2) r16.toInt64
              refine gcVv (pc := 87) (w1 := [(a 0, .inr (6, [.ref (a 1), .ref (a 2), .ref (a 3), .int (M.1 0), .ref (a 4), .ref (a 5), .int (M.1 1), .int (M.1 2), .int (M.1 3), .ref (a 6), .ref (a 7), .int (M.1 4), .int (M.1 5), .int (M.1 6), .long ((31 * (lpH (fun i => M.2.2.1 (11 + i)) (lpH (fun i => (fX6_toldOf M.2.2.1 (nI i)).toInt64) (lpH (fun i => (fX6_refusedOf M.2.2.2.2.2.1 M.1 (nI i)).toInt64) 1690 5) 12) 13)) + r16.toInt64)])), (a 1, .inl (eJ E, 68, .inr (.inl M.2.2.1))), (a 2, .inl (eJ E, 68, .inr (.inl M.2.2.2.1))), (a 3, .inl (eJ E, 340, .inr (.inl M.2.2.2.2.1))), (a 4, .inl (eI E, 3, .inl M.2.2.2.2.2.1)), (a 5, .inl (eI E, 120, .inl M.2.2.2.2.2.2.1)), (a 6, .inl (eI E, 60, .inl M.2.2.2.2.2.2.2.1)), (a 7, .inl (eI E, 120, .inl M.2.2.2.2.2.2.2.2))]) (pre := []) (post := []) (As := [.long r16.toInt64]) (rest := []) (q0 := 0) ⟨hx, hb, hml, hown, hts⟩ hr17 (cwV 1 hts gX6_digest_X6_mix rfl rfl rfl qvX6_mix ⟨Nat.le_of_ble_eq_true rfl, Nat.le_of_ble_eq_true rfl⟩) hK hP hD hS hA rfl rfl rfl rfl rfl hl.1 rfl (Nat.le_of_ble_eq_true rfl) dX6_digest_87 ⟨Nat.zero_le _, Nat.zero_le _⟩ (fun H locs hP hD hS => ?_)
              refine lv_iconst (v := 0) (pc := 90) hx hb dX6_digest_90 rfl ?_
              refine lv_istore_n (lv' := [(1, .int 0), (0, .ref (a 0))]) (pc := 91) hx hb dX6_digest_91 rfl hl (by decide) rfl (fun ls hl => ?_)
              have loop21 : ∀ (n19 i18 : Nat), i18 + n19 = 22 → ∀ (H : Heap) (locs : List Loc) (ls : Array Slot), va_P E.1 vwCl [(a 0, .inr (6, [.ref (a 1), .ref (a 2), .ref (a 3), .int (M.1 0), .ref (a 4), .ref (a 5), .int (M.1 1), .int (M.1 2), .int (M.1 3), .ref (a 6), .ref (a 7), .int (M.1 4), .int (M.1 5), .int (M.1 6), .long (lpH2 (fun i => (fX6_bandOf M.2.2.1 (nI i) 0).toInt64) (fun i => (fX6_bandOf M.2.2.1 (nI i) 1).toInt64) ((31 * (lpH (fun i => M.2.2.1 (11 + i)) (lpH (fun i => (fX6_toldOf M.2.2.1 (nI i)).toInt64) (lpH (fun i => (fX6_refusedOf M.2.2.2.2.2.1 M.1 (nI i)).toInt64) 1690 5) 12) 13)) + r16.toInt64) i18)])), (a 1, .inl (eJ E, 68, .inr (.inl M.2.2.1))), (a 2, .inl (eJ E, 68, .inr (.inl M.2.2.2.1))), (a 3, .inl (eJ E, 340, .inr (.inl M.2.2.2.2.1))), (a 4, .inl (eI E, 3, .inl M.2.2.2.2.2.1)), (a 5, .inl (eI E, 120, .inl M.2.2.2.2.2.2.1)), (a 6, .inl (eI E, 60, .inl M.2.2.2.2.2.2.2.1)), (a 7, .inl (eI E, 120, .inl M.2.2.2.2.2.2.2.2))] H → va_D A [(a 0, .inr (6, [.ref (a 1), .ref (a 2), .ref (a 3), .int (M.1 0), .ref (a 4), .ref (a 5), .int (M.1 1), .int (M.1 2), .int (M.1 3), .ref (a 6), .ref (a 7), .int (M.1 4), .int (M.1 5), .int (M.1 6), .long (lpH2 (fun i => (fX6_bandOf M.2.2.1 (nI i) 0).toInt64) (fun i => (fX6_bandOf M.2.2.1 (nI i) 1).toInt64) ((31 * (lpH (fun i => M.2.2.1 (11 + i)) (lpH (fun i => (fX6_toldOf M.2.2.1 (nI i)).toInt64) (lpH (fun i => (fX6_refusedOf M.2.2.2.2.2.1 M.1 (nI i)).toInt64) 1690 5) 12) 13)) + r16.toInt64) i18)])), (a 1, .inl (eJ E, 68, .inr (.inl M.2.2.1))), (a 2, .inl (eJ E, 68, .inr (.inl M.2.2.2.1))), (a 3, .inl (eJ E, 340, .inr (.inl M.2.2.2.2.1))), (a 4, .inl (eI E, 3, .inl M.2.2.2.2.2.1)), (a 5, .inl (eI E, 120, .inl M.2.2.2.2.2.2.1)), (a 6, .inl (eI E, 60, .inl M.2.2.2.2.2.2.2.1)), (a 7, .inl (eI E, 120, .inl M.2.2.2.2.2.2.2.2))] → va_S A s.heap H locs → lv_has ls 2 [(0, .ref (a 0)), (1, .int (nI i18))] → W p l e rX6_digest s m args below meth c H locs 0 0 Q (F0 m 92 ls []) := by
                intro n19
                induction n19 with
                | zero =>
                  intro i18 hi H locs ls hP hD hS hl
                  obtain rfl : i18 = 22 := by omega
                  refine lv_iload_n (pc := 92) hx hb dX6_digest_92 rfl (lv_at hl 1 rfl) ?_
                  refine lv_bipush (v := 22) (pc := 93) hx hb dX6_digest_93 rfl ?_
                  refine lv_icmp_ge (tgt := 126) (pc := 95) hx hb dX6_digest_95 (by decide) (fun c_22 => ?_) (fun c_22 => ?_)
                  rotate_left
                  · exact absurd (nI_le (a := 22) (b := 22) (by decide) (by decide)) c_22
                  refine lv_iconst (v := 1) (pc := 126) hx hb dX6_digest_126 rfl ?_
                  refine lv_istore_n (lv' := [(1, .int 1), (0, .ref (a 0))]) (pc := 127) hx hb dX6_digest_127 rfl hl (by decide) rfl (fun ls hl => ?_)
                  have loop26 : ∀ (n24 i23 : Nat), i23 + n24 = 3 → ∀ (H : Heap) (locs : List Loc) (ls : Array Slot), va_P E.1 vwCl [(a 0, .inr (6, [.ref (a 1), .ref (a 2), .ref (a 3), .int (M.1 0), .ref (a 4), .ref (a 5), .int (M.1 1), .int (M.1 2), .int (M.1 3), .ref (a 6), .ref (a 7), .int (M.1 4), .int (M.1 5), .int (M.1 6), .long (lpH2 (fun i => (fX6_lastsBy M.2.2.1 (nI (1 + i)) 0).toInt64) (fun i => (fX6_lastsBy M.2.2.1 (nI (1 + i)) 1).toInt64) (lpH2 (fun i => (fX6_bandOf M.2.2.1 (nI i) 0).toInt64) (fun i => (fX6_bandOf M.2.2.1 (nI i) 1).toInt64) ((31 * (lpH (fun i => M.2.2.1 (11 + i)) (lpH (fun i => (fX6_toldOf M.2.2.1 (nI i)).toInt64) (lpH (fun i => (fX6_refusedOf M.2.2.2.2.2.1 M.1 (nI i)).toInt64) 1690 5) 12) 13)) + r16.toInt64) 22) i23)])), (a 1, .inl (eJ E, 68, .inr (.inl M.2.2.1))), (a 2, .inl (eJ E, 68, .inr (.inl M.2.2.2.1))), (a 3, .inl (eJ E, 340, .inr (.inl M.2.2.2.2.1))), (a 4, .inl (eI E, 3, .inl M.2.2.2.2.2.1)), (a 5, .inl (eI E, 120, .inl M.2.2.2.2.2.2.1)), (a 6, .inl (eI E, 60, .inl M.2.2.2.2.2.2.2.1)), (a 7, .inl (eI E, 120, .inl M.2.2.2.2.2.2.2.2))] H → va_D A [(a 0, .inr (6, [.ref (a 1), .ref (a 2), .ref (a 3), .int (M.1 0), .ref (a 4), .ref (a 5), .int (M.1 1), .int (M.1 2), .int (M.1 3), .ref (a 6), .ref (a 7), .int (M.1 4), .int (M.1 5), .int (M.1 6), .long (lpH2 (fun i => (fX6_lastsBy M.2.2.1 (nI (1 + i)) 0).toInt64) (fun i => (fX6_lastsBy M.2.2.1 (nI (1 + i)) 1).toInt64) (lpH2 (fun i => (fX6_bandOf M.2.2.1 (nI i) 0).toInt64) (fun i => (fX6_bandOf M.2.2.1 (nI i) 1).toInt64) ((31 * (lpH (fun i => M.2.2.1 (11 + i)) (lpH (fun i => (fX6_toldOf M.2.2.1 (nI i)).toInt64) (lpH (fun i => (fX6_refusedOf M.2.2.2.2.2.1 M.1 (nI i)).toInt64) 1690 5) 12) 13)) + r16.toInt64) 22) i23)])), (a 1, .inl (eJ E, 68, .inr (.inl M.2.2.1))), (a 2, .inl (eJ E, 68, .inr (.inl M.2.2.2.1))), (a 3, .inl (eJ E, 340, .inr (.inl M.2.2.2.2.1))), (a 4, .inl (eI E, 3, .inl M.2.2.2.2.2.1)), (a 5, .inl (eI E, 120, .inl M.2.2.2.2.2.2.1)), (a 6, .inl (eI E, 60, .inl M.2.2.2.2.2.2.2.1)), (a 7, .inl (eI E, 120, .inl M.2.2.2.2.2.2.2.2))] → va_S A s.heap H locs → lv_has ls 2 [(0, .ref (a 0)), (1, .int (nI (1 + i23)))] → W p l e rX6_digest s m args below meth c H locs 0 0 Q (F0 m 128 ls []) := by
                    intro n24
                    induction n24 with
                    | zero =>
                      intro i23 hi H locs ls hP hD hS hl
                      obtain rfl : i23 = 3 := by omega
                      refine lv_iload_n (pc := 128) hx hb dX6_digest_128 rfl (lv_at hl 1 rfl) ?_
                      refine lv_iconst (v := 4) (pc := 129) hx hb dX6_digest_129 rfl ?_
                      refine lv_icmp_ge (tgt := 161) (pc := 130) hx hb dX6_digest_130 (by decide) (fun c_27 => ?_) (fun c_27 => ?_)
                      rotate_left
                      · exact absurd (nI_le (a := 4) (b := 4) (by decide) (by decide)) c_27
                      refine lv_aload_n (pc := 161) hx hb dX6_digest_161 rfl (lv_at hl 0 rfl) ?_
                      refine g_get (v := .long (lpH2 (fun i => (fX6_lastsBy M.2.2.1 (nI (1 + i)) 0).toInt64) (fun i => (fX6_lastsBy M.2.2.1 (nI (1 + i)) 1).toInt64) (lpH2 (fun i => (fX6_bandOf M.2.2.1 (nI i) 0).toInt64) (fun i => (fX6_bandOf M.2.2.1 (nI i) 1).toInt64) ((31 * (lpH (fun i => M.2.2.1 (11 + i)) (lpH (fun i => (fX6_toldOf M.2.2.1 (nI i)).toInt64) (lpH (fun i => (fX6_refusedOf M.2.2.2.2.2.1 M.1 (nI i)).toInt64) 1690 5) 12) 13)) + r16.toInt64) 22) 3)) (pc := 162) hx hb hts ii_X6_digest_X6 hown hK.1 hP 0 rfl rfl 14 (by decide) ⟨rfl, rfl, rfl⟩ mm_X6_digest_2 rfl dX6_digest_162 ?_
                      subst er16
                      exact hQ _ _ _ _ _ rfl hP hD hS dX6_digest_165
                    | succ n24 ih25 =>
                      intro i23 hi H locs ls hP hD hS hl
                      have hlt : i23 < 3 := by omega
                      refine lv_iload_n (pc := 128) hx hb dX6_digest_128 rfl (lv_at hl 1 rfl) ?_
                      refine lv_iconst (v := 4) (pc := 129) hx hb dX6_digest_129 rfl ?_
                      refine lv_icmp_ge (tgt := 161) (pc := 130) hx hb dX6_digest_130 (by decide) (fun c_28 => ?_) (fun c_28 => ?_)
                      · exact absurd c_28 (nI_ge (a := (1 + i23)) (b := 4) (by omega) (by decide))
                      refine lv_aload_n (pc := 133) hx hb dX6_digest_133 rfl (lv_at hl 0 rfl) ?_
                      refine lv_aload_n (pc := 134) hx hb dX6_digest_134 rfl (lv_at hl 0 rfl) ?_
                      refine lv_iload_n (pc := 135) hx hb dX6_digest_135 rfl (lv_at hl 1 rfl) ?_
                      refine lv_iconst (v := 0) (pc := 136) hx hb dX6_digest_136 rfl ?_
                      obtain ⟨r29, er29⟩ : ∃ z : Int32, fX6_lastsBy M.2.2.1 (nI (1 + i23)) 0 = z := ⟨_, rfl⟩
                      have hr29 := kX6_lastsBy l E a (M.1, (lpH2 (fun i => (fX6_lastsBy M.2.2.1 (nI (1 + i)) 0).toInt64) (fun i => (fX6_lastsBy M.2.2.1 (nI (1 + i)) 1).toInt64) (lpH2 (fun i => (fX6_bandOf M.2.2.1 (nI i) 0).toInt64) (fun i => (fX6_bandOf M.2.2.1 (nI i) 1).toInt64) ((31 * (lpH (fun i => M.2.2.1 (11 + i)) (lpH (fun i => (fX6_toldOf M.2.2.1 (nI i)).toInt64) (lpH (fun i => (fX6_refusedOf M.2.2.2.2.2.1 M.1 (nI i)).toInt64) 1690 5) 12) 13)) + r16.toInt64) 22) i23), M.2.2.1, M.2.2.2.1, M.2.2.2.2.1, M.2.2.2.2.2.1, M.2.2.2.2.2.2.1, M.2.2.2.2.2.2.2.1, M.2.2.2.2.2.2.2.2) (nI (1 + i23)) 0 (by rw [nI_toInt (by omega)]; omega) ho
                      dsimp only at hr29
                      rw [er29] at hr29
                      refine gcVi (pc := 137) (w1 := [(a 0, .inr (6, [.ref (a 1), .ref (a 2), .ref (a 3), .int (M.1 0), .ref (a 4), .ref (a 5), .int (M.1 1), .int (M.1 2), .int (M.1 3), .ref (a 6), .ref (a 7), .int (M.1 4), .int (M.1 5), .int (M.1 6), .long (lpH2 (fun i => (fX6_lastsBy M.2.2.1 (nI (1 + i)) 0).toInt64) (fun i => (fX6_lastsBy M.2.2.1 (nI (1 + i)) 1).toInt64) (lpH2 (fun i => (fX6_bandOf M.2.2.1 (nI i) 0).toInt64) (fun i => (fX6_bandOf M.2.2.1 (nI i) 1).toInt64) ((31 * (lpH (fun i => M.2.2.1 (11 + i)) (lpH (fun i => (fX6_toldOf M.2.2.1 (nI i)).toInt64) (lpH (fun i => (fX6_refusedOf M.2.2.2.2.2.1 M.1 (nI i)).toInt64) 1690 5) 12) 13)) + r16.toInt64) 22) i23)])), (a 1, .inl (eJ E, 68, .inr (.inl M.2.2.1))), (a 2, .inl (eJ E, 68, .inr (.inl M.2.2.2.1))), (a 3, .inl (eJ E, 340, .inr (.inl M.2.2.2.2.1))), (a 4, .inl (eI E, 3, .inl M.2.2.2.2.2.1)), (a 5, .inl (eI E, 120, .inl M.2.2.2.2.2.2.1)), (a 6, .inl (eI E, 60, .inl M.2.2.2.2.2.2.2.1)), (a 7, .inl (eI E, 120, .inl M.2.2.2.2.2.2.2.2))]) (pre := []) (post := []) (As := [.int (nI (1 + i23)), .int 0]) (rest := [.ref (a 0)]) (q0 := 0) ⟨hx, hb, hml, hown, hts⟩ hr29 (cwV 2 hts gX6_digest_X6_lastsBy rfl rfl rfl qvX6_lastsBy ⟨Nat.le_of_ble_eq_true rfl, Nat.le_of_ble_eq_true rfl⟩) hK hP hD hS hA rfl rfl rfl rfl rfl hl.1 rfl (Nat.le_of_ble_eq_true rfl) dX6_digest_137 ⟨Nat.zero_le _, Nat.zero_le _⟩ (fun H locs hP hD hS => ?_)
                      refine lv_i2l (v := r29.toInt64) (pc := 140) hx hb dX6_digest_140 rfl ?_
                      have hr30 := kX6_mix l E a (M.1, (lpH2 (fun i => (fX6_lastsBy M.2.2.1 (nI (1 + i)) 0).toInt64) (fun i => (fX6_lastsBy M.2.2.1 (nI (1 + i)) 1).toInt64) (lpH2 (fun i => (fX6_bandOf M.2.2.1 (nI i) 0).toInt64) (fun i => (fX6_bandOf M.2.2.1 (nI i) 1).toInt64) ((31 * (lpH (fun i => M.2.2.1 (11 + i)) (lpH (fun i => (fX6_toldOf M.2.2.1 (nI i)).toInt64) (lpH (fun i => (fX6_refusedOf M.2.2.2.2.2.1 M.1 (nI i)).toInt64) 1690 5) 12) 13)) + r16.toInt64) 22) i23), M.2.2.1, M.2.2.2.1, M.2.2.2.2.1, M.2.2.2.2.2.1, M.2.2.2.2.2.2.1, M.2.2.2.2.2.2.2.1, M.2.2.2.2.2.2.2.2) r29.toInt64
                      refine gcVv (pc := 141) (w1 := [(a 0, .inr (6, [.ref (a 1), .ref (a 2), .ref (a 3), .int (M.1 0), .ref (a 4), .ref (a 5), .int (M.1 1), .int (M.1 2), .int (M.1 3), .ref (a 6), .ref (a 7), .int (M.1 4), .int (M.1 5), .int (M.1 6), .long ((31 * (lpH2 (fun i => (fX6_lastsBy M.2.2.1 (nI (1 + i)) 0).toInt64) (fun i => (fX6_lastsBy M.2.2.1 (nI (1 + i)) 1).toInt64) (lpH2 (fun i => (fX6_bandOf M.2.2.1 (nI i) 0).toInt64) (fun i => (fX6_bandOf M.2.2.1 (nI i) 1).toInt64) ((31 * (lpH (fun i => M.2.2.1 (11 + i)) (lpH (fun i => (fX6_toldOf M.2.2.1 (nI i)).toInt64) (lpH (fun i => (fX6_refusedOf M.2.2.2.2.2.1 M.1 (nI i)).toInt64) 1690 5) 12) 13)) + r16.toInt64) 22) i23)) + r29.toInt64)])), (a 1, .inl (eJ E, 68, .inr (.inl M.2.2.1))), (a 2, .inl (eJ E, 68, .inr (.inl M.2.2.2.1))), (a 3, .inl (eJ E, 340, .inr (.inl M.2.2.2.2.1))), (a 4, .inl (eI E, 3, .inl M.2.2.2.2.2.1)), (a 5, .inl (eI E, 120, .inl M.2.2.2.2.2.2.1)), (a 6, .inl (eI E, 60, .inl M.2.2.2.2.2.2.2.1)), (a 7, .inl (eI E, 120, .inl M.2.2.2.2.2.2.2.2))]) (pre := []) (post := []) (As := [.long r29.toInt64]) (rest := []) (q0 := 0) ⟨hx, hb, hml, hown, hts⟩ hr30 (cwV 1 hts gX6_digest_X6_mix rfl rfl rfl qvX6_mix ⟨Nat.le_of_ble_eq_true rfl, Nat.le_of_ble_eq_true rfl⟩) hK hP hD hS hA rfl rfl rfl rfl rfl hl.1 rfl (Nat.le_of_ble_eq_true rfl) dX6_digest_141 ⟨Nat.zero_le _, Nat.zero_le _⟩ (fun H locs hP hD hS => ?_)
                      refine lv_aload_n (pc := 144) hx hb dX6_digest_144 rfl (lv_at hl 0 rfl) ?_
                      refine lv_aload_n (pc := 145) hx hb dX6_digest_145 rfl (lv_at hl 0 rfl) ?_
                      refine lv_iload_n (pc := 146) hx hb dX6_digest_146 rfl (lv_at hl 1 rfl) ?_
                      refine lv_iconst (v := 1) (pc := 147) hx hb dX6_digest_147 rfl ?_
                      obtain ⟨r31, er31⟩ : ∃ z : Int32, fX6_lastsBy M.2.2.1 (nI (1 + i23)) 1 = z := ⟨_, rfl⟩
                      have hr31 := kX6_lastsBy l E a (M.1, (31 * (lpH2 (fun i => (fX6_lastsBy M.2.2.1 (nI (1 + i)) 0).toInt64) (fun i => (fX6_lastsBy M.2.2.1 (nI (1 + i)) 1).toInt64) (lpH2 (fun i => (fX6_bandOf M.2.2.1 (nI i) 0).toInt64) (fun i => (fX6_bandOf M.2.2.1 (nI i) 1).toInt64) ((31 * (lpH (fun i => M.2.2.1 (11 + i)) (lpH (fun i => (fX6_toldOf M.2.2.1 (nI i)).toInt64) (lpH (fun i => (fX6_refusedOf M.2.2.2.2.2.1 M.1 (nI i)).toInt64) 1690 5) 12) 13)) + r16.toInt64) 22) i23)) + r29.toInt64, M.2.2.1, M.2.2.2.1, M.2.2.2.2.1, M.2.2.2.2.2.1, M.2.2.2.2.2.2.1, M.2.2.2.2.2.2.2.1, M.2.2.2.2.2.2.2.2) (nI (1 + i23)) 1 (by rw [nI_toInt (by omega)]; omega) ho
                      dsimp only at hr31
                      rw [er31] at hr31
                      refine gcVi (pc := 148) (w1 := [(a 0, .inr (6, [.ref (a 1), .ref (a 2), .ref (a 3), .int (M.1 0), .ref (a 4), .ref (a 5), .int (M.1 1), .int (M.1 2), .int (M.1 3), .ref (a 6), .ref (a 7), .int (M.1 4), .int (M.1 5), .int (M.1 6), .long ((31 * (lpH2 (fun i => (fX6_lastsBy M.2.2.1 (nI (1 + i)) 0).toInt64) (fun i => (fX6_lastsBy M.2.2.1 (nI (1 + i)) 1).toInt64) (lpH2 (fun i => (fX6_bandOf M.2.2.1 (nI i) 0).toInt64) (fun i => (fX6_bandOf M.2.2.1 (nI i) 1).toInt64) ((31 * (lpH (fun i => M.2.2.1 (11 + i)) (lpH (fun i => (fX6_toldOf M.2.2.1 (nI i)).toInt64) (lpH (fun i => (fX6_refusedOf M.2.2.2.2.2.1 M.1 (nI i)).toInt64) 1690 5) 12) 13)) + r16.toInt64) 22) i23)) + r29.toInt64)])), (a 1, .inl (eJ E, 68, .inr (.inl M.2.2.1))), (a 2, .inl (eJ E, 68, .inr (.inl M.2.2.2.1))), (a 3, .inl (eJ E, 340, .inr (.inl M.2.2.2.2.1))), (a 4, .inl (eI E, 3, .inl M.2.2.2.2.2.1)), (a 5, .inl (eI E, 120, .inl M.2.2.2.2.2.2.1)), (a 6, .inl (eI E, 60, .inl M.2.2.2.2.2.2.2.1)), (a 7, .inl (eI E, 120, .inl M.2.2.2.2.2.2.2.2))]) (pre := []) (post := []) (As := [.int (nI (1 + i23)), .int 1]) (rest := [.ref (a 0)]) (q0 := 0) ⟨hx, hb, hml, hown, hts⟩ hr31 (cwV 2 hts gX6_digest_X6_lastsBy rfl rfl rfl qvX6_lastsBy ⟨Nat.le_of_ble_eq_true rfl, Nat.le_of_ble_eq_true rfl⟩) hK hP hD hS hA rfl rfl rfl rfl rfl hl.1 rfl (Nat.le_of_ble_eq_true rfl) dX6_digest_148 ⟨Nat.zero_le _, Nat.zero_le _⟩ (fun H locs hP hD hS => ?_)
                      refine lv_i2l (v := r31.toInt64) (pc := 151) hx hb dX6_digest_151 rfl ?_
                      have hr32 := kX6_mix l E a (M.1, (31 * (lpH2 (fun i => (fX6_lastsBy M.2.2.1 (nI (1 + i)) 0).toInt64) (fun i => (fX6_lastsBy M.2.2.1 (nI (1 + i)) 1).toInt64) (lpH2 (fun i => (fX6_bandOf M.2.2.1 (nI i) 0).toInt64) (fun i => (fX6_bandOf M.2.2.1 (nI i) 1).toInt64) ((31 * (lpH (fun i => M.2.2.1 (11 + i)) (lpH (fun i => (fX6_toldOf M.2.2.1 (nI i)).toInt64) (lpH (fun i => (fX6_refusedOf M.2.2.2.2.2.1 M.1 (nI i)).toInt64) 1690 5) 12) 13)) + r16.toInt64) 22) i23)) + r29.toInt64, M.2.2.1, M.2.2.2.1, M.2.2.2.2.1, M.2.2.2.2.2.1, M.2.2.2.2.2.2.1, M.2.2.2.2.2.2.2.1, M.2.2.2.2.2.2.2.2) r31.toInt64
                      refine gcVv (pc := 152) (w1 := [(a 0, .inr (6, [.ref (a 1), .ref (a 2), .ref (a 3), .int (M.1 0), .ref (a 4), .ref (a 5), .int (M.1 1), .int (M.1 2), .int (M.1 3), .ref (a 6), .ref (a 7), .int (M.1 4), .int (M.1 5), .int (M.1 6), .long ((31 * ((31 * (lpH2 (fun i => (fX6_lastsBy M.2.2.1 (nI (1 + i)) 0).toInt64) (fun i => (fX6_lastsBy M.2.2.1 (nI (1 + i)) 1).toInt64) (lpH2 (fun i => (fX6_bandOf M.2.2.1 (nI i) 0).toInt64) (fun i => (fX6_bandOf M.2.2.1 (nI i) 1).toInt64) ((31 * (lpH (fun i => M.2.2.1 (11 + i)) (lpH (fun i => (fX6_toldOf M.2.2.1 (nI i)).toInt64) (lpH (fun i => (fX6_refusedOf M.2.2.2.2.2.1 M.1 (nI i)).toInt64) 1690 5) 12) 13)) + r16.toInt64) 22) i23)) + r29.toInt64)) + r31.toInt64)])), (a 1, .inl (eJ E, 68, .inr (.inl M.2.2.1))), (a 2, .inl (eJ E, 68, .inr (.inl M.2.2.2.1))), (a 3, .inl (eJ E, 340, .inr (.inl M.2.2.2.2.1))), (a 4, .inl (eI E, 3, .inl M.2.2.2.2.2.1)), (a 5, .inl (eI E, 120, .inl M.2.2.2.2.2.2.1)), (a 6, .inl (eI E, 60, .inl M.2.2.2.2.2.2.2.1)), (a 7, .inl (eI E, 120, .inl M.2.2.2.2.2.2.2.2))]) (pre := []) (post := []) (As := [.long r31.toInt64]) (rest := []) (q0 := 0) ⟨hx, hb, hml, hown, hts⟩ hr32 (cwV 1 hts gX6_digest_X6_mix rfl rfl rfl qvX6_mix ⟨Nat.le_of_ble_eq_true rfl, Nat.le_of_ble_eq_true rfl⟩) hK hP hD hS hA rfl rfl rfl rfl rfl hl.1 rfl (Nat.le_of_ble_eq_true rfl) dX6_digest_152 ⟨Nat.zero_le _, Nat.zero_le _⟩ (fun H locs hP hD hS => ?_)
                      refine lv_iinc (v := nI (1 + (i23 + 1))) (lv' := [(1, .int (nI (1 + (i23 + 1)))), (0, .ref (a 0))]) (pc := 155) hx hb dX6_digest_155 hl (k := 1) rfl (nI_1 (1 + i23)) (by decide) rfl (fun ls hl => ?_)
                      refine lv_goto (tgt := 128) (pc := 158) hx hb dX6_digest_158 (by decide) ?_
                      subst er31
                      subst er29
                      exact ih25 (i23 + 1) (by omega) _ _ _ (by rw [lpH2_s]; exact hP) (by rw [lpH2_s]; exact hD) hS (lv_sub hl [1, 0] rfl)
                  exact loop26 3 0 (by decide) _ _ _ (by rw [lpH2_0]; exact hP) (by rw [lpH2_0]; exact hD) hS (lv_sub hl [1, 0] rfl)
                | succ n19 ih20 =>
                  intro i18 hi H locs ls hP hD hS hl
                  have hlt : i18 < 22 := by omega
                  refine lv_iload_n (pc := 92) hx hb dX6_digest_92 rfl (lv_at hl 1 rfl) ?_
                  refine lv_bipush (v := 22) (pc := 93) hx hb dX6_digest_93 rfl ?_
                  refine lv_icmp_ge (tgt := 126) (pc := 95) hx hb dX6_digest_95 (by decide) (fun c_33 => ?_) (fun c_33 => ?_)
                  · exact absurd c_33 (nI_ge (a := i18) (b := 22) (by omega) (by decide))
                  refine lv_aload_n (pc := 98) hx hb dX6_digest_98 rfl (lv_at hl 0 rfl) ?_
                  refine lv_aload_n (pc := 99) hx hb dX6_digest_99 rfl (lv_at hl 0 rfl) ?_
                  refine lv_iload_n (pc := 100) hx hb dX6_digest_100 rfl (lv_at hl 1 rfl) ?_
                  refine lv_iconst (v := 0) (pc := 101) hx hb dX6_digest_101 rfl ?_
                  obtain ⟨r34, er34⟩ : ∃ z : Int32, fX6_bandOf M.2.2.1 (nI i18) 0 = z := ⟨_, rfl⟩
                  have hr34 := kX6_bandOf l E a (M.1, (lpH2 (fun i => (fX6_bandOf M.2.2.1 (nI i) 0).toInt64) (fun i => (fX6_bandOf M.2.2.1 (nI i) 1).toInt64) ((31 * (lpH (fun i => M.2.2.1 (11 + i)) (lpH (fun i => (fX6_toldOf M.2.2.1 (nI i)).toInt64) (lpH (fun i => (fX6_refusedOf M.2.2.2.2.2.1 M.1 (nI i)).toInt64) 1690 5) 12) 13)) + r16.toInt64) i18), M.2.2.1, M.2.2.2.1, M.2.2.2.2.1, M.2.2.2.2.2.1, M.2.2.2.2.2.2.1, M.2.2.2.2.2.2.2.1, M.2.2.2.2.2.2.2.2) (nI i18) 0 (hv_n 21 (by omega) (by decide))
                  dsimp only at hr34
                  rw [er34] at hr34
                  refine gcVi (pc := 102) (w1 := [(a 0, .inr (6, [.ref (a 1), .ref (a 2), .ref (a 3), .int (M.1 0), .ref (a 4), .ref (a 5), .int (M.1 1), .int (M.1 2), .int (M.1 3), .ref (a 6), .ref (a 7), .int (M.1 4), .int (M.1 5), .int (M.1 6), .long (lpH2 (fun i => (fX6_bandOf M.2.2.1 (nI i) 0).toInt64) (fun i => (fX6_bandOf M.2.2.1 (nI i) 1).toInt64) ((31 * (lpH (fun i => M.2.2.1 (11 + i)) (lpH (fun i => (fX6_toldOf M.2.2.1 (nI i)).toInt64) (lpH (fun i => (fX6_refusedOf M.2.2.2.2.2.1 M.1 (nI i)).toInt64) 1690 5) 12) 13)) + r16.toInt64) i18)])), (a 1, .inl (eJ E, 68, .inr (.inl M.2.2.1))), (a 2, .inl (eJ E, 68, .inr (.inl M.2.2.2.1))), (a 3, .inl (eJ E, 340, .inr (.inl M.2.2.2.2.1))), (a 4, .inl (eI E, 3, .inl M.2.2.2.2.2.1)), (a 5, .inl (eI E, 120, .inl M.2.2.2.2.2.2.1)), (a 6, .inl (eI E, 60, .inl M.2.2.2.2.2.2.2.1)), (a 7, .inl (eI E, 120, .inl M.2.2.2.2.2.2.2.2))]) (pre := []) (post := []) (As := [.int (nI i18), .int 0]) (rest := [.ref (a 0)]) (q0 := 0) ⟨hx, hb, hml, hown, hts⟩ hr34 (cwV 2 hts gX6_digest_X6_bandOf rfl rfl rfl qvX6_bandOf ⟨Nat.le_of_ble_eq_true rfl, Nat.le_of_ble_eq_true rfl⟩) hK hP hD hS hA rfl rfl rfl rfl rfl hl.1 rfl (Nat.le_of_ble_eq_true rfl) dX6_digest_102 ⟨Nat.zero_le _, Nat.zero_le _⟩ (fun H locs hP hD hS => ?_)
                  refine lv_i2l (v := r34.toInt64) (pc := 105) hx hb dX6_digest_105 rfl ?_
                  have hr35 := kX6_mix l E a (M.1, (lpH2 (fun i => (fX6_bandOf M.2.2.1 (nI i) 0).toInt64) (fun i => (fX6_bandOf M.2.2.1 (nI i) 1).toInt64) ((31 * (lpH (fun i => M.2.2.1 (11 + i)) (lpH (fun i => (fX6_toldOf M.2.2.1 (nI i)).toInt64) (lpH (fun i => (fX6_refusedOf M.2.2.2.2.2.1 M.1 (nI i)).toInt64) 1690 5) 12) 13)) + r16.toInt64) i18), M.2.2.1, M.2.2.2.1, M.2.2.2.2.1, M.2.2.2.2.2.1, M.2.2.2.2.2.2.1, M.2.2.2.2.2.2.2.1, M.2.2.2.2.2.2.2.2) r34.toInt64
                  refine gcVv (pc := 106) (w1 := [(a 0, .inr (6, [.ref (a 1), .ref (a 2), .ref (a 3), .int (M.1 0), .ref (a 4), .ref (a 5), .int (M.1 1), .int (M.1 2), .int (M.1 3), .ref (a 6), .ref (a 7), .int (M.1 4), .int (M.1 5), .int (M.1 6), .long ((31 * (lpH2 (fun i => (fX6_bandOf M.2.2.1 (nI i) 0).toInt64) (fun i => (fX6_bandOf M.2.2.1 (nI i) 1).toInt64) ((31 * (lpH (fun i => M.2.2.1 (11 + i)) (lpH (fun i => (fX6_toldOf M.2.2.1 (nI i)).toInt64) (lpH (fun i => (fX6_refusedOf M.2.2.2.2.2.1 M.1 (nI i)).toInt64) 1690 5) 12) 13)) + r16.toInt64) i18)) + r34.toInt64)])), (a 1, .inl (eJ E, 68, .inr (.inl M.2.2.1))), (a 2, .inl (eJ E, 68, .inr (.inl M.2.2.2.1))), (a 3, .inl (eJ E, 340, .inr (.inl M.2.2.2.2.1))), (a 4, .inl (eI E, 3, .inl M.2.2.2.2.2.1)), (a 5, .inl (eI E, 120, .inl M.2.2.2.2.2.2.1)), (a 6, .inl (eI E, 60, .inl M.2.2.2.2.2.2.2.1)), (a 7, .inl (eI E, 120, .inl M.2.2.2.2.2.2.2.2))]) (pre := []) (post := []) (As := [.long r34.toInt64]) (rest := []) (q0 := 0) ⟨hx, hb, hml, hown, hts⟩ hr35 (cwV 1 hts gX6_digest_X6_mix rfl rfl rfl qvX6_mix ⟨Nat.le_of_ble_eq_true rfl, Nat.le_of_ble_eq_true rfl⟩) hK hP hD hS hA rfl rfl rfl rfl rfl hl.1 rfl (Nat.le_of_ble_eq_true rfl) dX6_digest_106 ⟨Nat.zero_le _, Nat.zero_le _⟩ (fun H locs hP hD hS => ?_)
                  refine lv_aload_n (pc := 109) hx hb dX6_digest_109 rfl (lv_at hl 0 rfl) ?_
                  refine lv_aload_n (pc := 110) hx hb dX6_digest_110 rfl (lv_at hl 0 rfl) ?_
                  refine lv_iload_n (pc := 111) hx hb dX6_digest_111 rfl (lv_at hl 1 rfl) ?_
                  refine lv_iconst (v := 1) (pc := 112) hx hb dX6_digest_112 rfl ?_
                  obtain ⟨r36, er36⟩ : ∃ z : Int32, fX6_bandOf M.2.2.1 (nI i18) 1 = z := ⟨_, rfl⟩
                  have hr36 := kX6_bandOf l E a (M.1, (31 * (lpH2 (fun i => (fX6_bandOf M.2.2.1 (nI i) 0).toInt64) (fun i => (fX6_bandOf M.2.2.1 (nI i) 1).toInt64) ((31 * (lpH (fun i => M.2.2.1 (11 + i)) (lpH (fun i => (fX6_toldOf M.2.2.1 (nI i)).toInt64) (lpH (fun i => (fX6_refusedOf M.2.2.2.2.2.1 M.1 (nI i)).toInt64) 1690 5) 12) 13)) + r16.toInt64) i18)) + r34.toInt64, M.2.2.1, M.2.2.2.1, M.2.2.2.2.1, M.2.2.2.2.2.1, M.2.2.2.2.2.2.1, M.2.2.2.2.2.2.2.1, M.2.2.2.2.2.2.2.2) (nI i18) 1 (hv_n 21 (by omega) (by decide))
                  dsimp only at hr36
                  rw [er36] at hr36
                  refine gcVi (pc := 113) (w1 := [(a 0, .inr (6, [.ref (a 1), .ref (a 2), .ref (a 3), .int (M.1 0), .ref (a 4), .ref (a 5), .int (M.1 1), .int (M.1 2), .int (M.1 3), .ref (a 6), .ref (a 7), .int (M.1 4), .int (M.1 5), .int (M.1 6), .long ((31 * (lpH2 (fun i => (fX6_bandOf M.2.2.1 (nI i) 0).toInt64) (fun i => (fX6_bandOf M.2.2.1 (nI i) 1).toInt64) ((31 * (lpH (fun i => M.2.2.1 (11 + i)) (lpH (fun i => (fX6_toldOf M.2.2.1 (nI i)).toInt64) (lpH (fun i => (fX6_refusedOf M.2.2.2.2.2.1 M.1 (nI i)).toInt64) 1690 5) 12) 13)) + r16.toInt64) i18)) + r34.toInt64)])), (a 1, .inl (eJ E, 68, .inr (.inl M.2.2.1))), (a 2, .inl (eJ E, 68, .inr (.inl M.2.2.2.1))), (a 3, .inl (eJ E, 340, .inr (.inl M.2.2.2.2.1))), (a 4, .inl (eI E, 3, .inl M.2.2.2.2.2.1)), (a 5, .inl (eI E, 120, .inl M.2.2.2.2.2.2.1)), (a 6, .inl (eI E, 60, .inl M.2.2.2.2.2.2.2.1)), (a 7, .inl (eI E, 120, .inl M.2.2.2.2.2.2.2.2))]) (pre := []) (post := []) (As := [.int (nI i18), .int 1]) (rest := [.ref (a 0)]) (q0 := 0) ⟨hx, hb, hml, hown, hts⟩ hr36 (cwV 2 hts gX6_digest_X6_bandOf rfl rfl rfl qvX6_bandOf ⟨Nat.le_of_ble_eq_true rfl, Nat.le_of_ble_eq_true rfl⟩) hK hP hD hS hA rfl rfl rfl rfl rfl hl.1 rfl (Nat.le_of_ble_eq_true rfl) dX6_digest_113 ⟨Nat.zero_le _, Nat.zero_le _⟩ (fun H locs hP hD hS => ?_)
                  refine lv_i2l (v := r36.toInt64) (pc := 116) hx hb dX6_digest_116 rfl ?_
                  have hr37 := kX6_mix l E a (M.1, (31 * (lpH2 (fun i => (fX6_bandOf M.2.2.1 (nI i) 0).toInt64) (fun i => (fX6_bandOf M.2.2.1 (nI i) 1).toInt64) ((31 * (lpH (fun i => M.2.2.1 (11 + i)) (lpH (fun i => (fX6_toldOf M.2.2.1 (nI i)).toInt64) (lpH (fun i => (fX6_refusedOf M.2.2.2.2.2.1 M.1 (nI i)).toInt64) 1690 5) 12) 13)) + r16.toInt64) i18)) + r34.toInt64, M.2.2.1, M.2.2.2.1, M.2.2.2.2.1, M.2.2.2.2.2.1, M.2.2.2.2.2.2.1, M.2.2.2.2.2.2.2.1, M.2.2.2.2.2.2.2.2) r36.toInt64
                  refine gcVv (pc := 117) (w1 := [(a 0, .inr (6, [.ref (a 1), .ref (a 2), .ref (a 3), .int (M.1 0), .ref (a 4), .ref (a 5), .int (M.1 1), .int (M.1 2), .int (M.1 3), .ref (a 6), .ref (a 7), .int (M.1 4), .int (M.1 5), .int (M.1 6), .long ((31 * ((31 * (lpH2 (fun i => (fX6_bandOf M.2.2.1 (nI i) 0).toInt64) (fun i => (fX6_bandOf M.2.2.1 (nI i) 1).toInt64) ((31 * (lpH (fun i => M.2.2.1 (11 + i)) (lpH (fun i => (fX6_toldOf M.2.2.1 (nI i)).toInt64) (lpH (fun i => (fX6_refusedOf M.2.2.2.2.2.1 M.1 (nI i)).toInt64) 1690 5) 12) 13)) + r16.toInt64) i18)) + r34.toInt64)) + r36.toInt64)])), (a 1, .inl (eJ E, 68, .inr (.inl M.2.2.1))), (a 2, .inl (eJ E, 68, .inr (.inl M.2.2.2.1))), (a 3, .inl (eJ E, 340, .inr (.inl M.2.2.2.2.1))), (a 4, .inl (eI E, 3, .inl M.2.2.2.2.2.1)), (a 5, .inl (eI E, 120, .inl M.2.2.2.2.2.2.1)), (a 6, .inl (eI E, 60, .inl M.2.2.2.2.2.2.2.1)), (a 7, .inl (eI E, 120, .inl M.2.2.2.2.2.2.2.2))]) (pre := []) (post := []) (As := [.long r36.toInt64]) (rest := []) (q0 := 0) ⟨hx, hb, hml, hown, hts⟩ hr37 (cwV 1 hts gX6_digest_X6_mix rfl rfl rfl qvX6_mix ⟨Nat.le_of_ble_eq_true rfl, Nat.le_of_ble_eq_true rfl⟩) hK hP hD hS hA rfl rfl rfl rfl rfl hl.1 rfl (Nat.le_of_ble_eq_true rfl) dX6_digest_117 ⟨Nat.zero_le _, Nat.zero_le _⟩ (fun H locs hP hD hS => ?_)
                  refine lv_iinc (v := nI (i18 + 1)) (lv' := [(1, .int (nI (i18 + 1))), (0, .ref (a 0))]) (pc := 120) hx hb dX6_digest_120 hl (k := 1) rfl (nI_1 i18) (by decide) rfl (fun ls hl => ?_)
                  refine lv_goto (tgt := 92) (pc := 123) hx hb dX6_digest_123 (by decide) ?_
                  subst er36
                  subst er34
                  exact ih20 (i18 + 1) (by omega) _ _ _ (by rw [lpH2_s]; exact hP) (by rw [lpH2_s]; exact hD) hS (lv_sub hl [1, 0] rfl)
              exact loop21 22 0 (by decide) _ _ _ (by rw [lpH2_0]; exact hP) (by rw [lpH2_0]; exact hD) hS (lv_sub hl [1, 0] rfl)
            | succ n12 ih13 =>
              intro i11 hi H locs ls hP hD hS hl
              have hlt : i11 < 13 := by omega
              refine lv_iload_n (pc := 56) hx hb dX6_digest_56 rfl (lv_at hl 1 rfl) ?_
              refine lv_bipush (v := 13) (pc := 57) hx hb dX6_digest_57 rfl ?_
              refine lv_icmp_ge (tgt := 81) (pc := 59) hx hb dX6_digest_59 (by decide) (fun c_38 => ?_) (fun c_38 => ?_)
              · exact absurd c_38 (nI_ge (a := i11) (b := 13) (by omega) (by decide))
              refine lv_aload_n (pc := 62) hx hb dX6_digest_62 rfl (lv_at hl 0 rfl) ?_
              refine lv_aload_n (pc := 63) hx hb dX6_digest_63 rfl (lv_at hl 0 rfl) ?_
              refine g_get (v := .ref (a 1)) (pc := 64) hx hb hts ii_X6_digest_X6 hown hK.1 hP 0 rfl rfl 0 (by decide) ⟨rfl, rfl, rfl⟩ mm_X6_digest_3 rfl dX6_digest_64 ?_
              refine lv_bipush (v := 11) (pc := 67) hx hb dX6_digest_67 rfl ?_
              refine lv_iload_n (pc := 69) hx hb dX6_digest_69 rfl (lv_at hl 1 rfl) ?_
              refine lv_iadd (pc := 70) hx hb dX6_digest_70 ?_
              refine g_lald (j := 11 + i11) (v := (M.2.2.1 (11 + i11))) (pc := 71) hx hb hK.1 hP 1 1 rfl rfl (ix_off (a := 11) (by omega) (by decide)) (cl_off (a := 11) (by omega)) rfl dX6_digest_71 ?_
              have hr39 := kX6_mix l E a (M.1, (lpH (fun i => M.2.2.1 (11 + i)) (lpH (fun i => (fX6_toldOf M.2.2.1 (nI i)).toInt64) (lpH (fun i => (fX6_refusedOf M.2.2.2.2.2.1 M.1 (nI i)).toInt64) 1690 5) 12) i11), M.2.2.1, M.2.2.2.1, M.2.2.2.2.1, M.2.2.2.2.2.1, M.2.2.2.2.2.2.1, M.2.2.2.2.2.2.2.1, M.2.2.2.2.2.2.2.2) (M.2.2.1 (11 + i11))
              refine gcVv (pc := 72) (w1 := [(a 0, .inr (6, [.ref (a 1), .ref (a 2), .ref (a 3), .int (M.1 0), .ref (a 4), .ref (a 5), .int (M.1 1), .int (M.1 2), .int (M.1 3), .ref (a 6), .ref (a 7), .int (M.1 4), .int (M.1 5), .int (M.1 6), .long ((31 * (lpH (fun i => M.2.2.1 (11 + i)) (lpH (fun i => (fX6_toldOf M.2.2.1 (nI i)).toInt64) (lpH (fun i => (fX6_refusedOf M.2.2.2.2.2.1 M.1 (nI i)).toInt64) 1690 5) 12) i11)) + (M.2.2.1 (11 + i11)))])), (a 1, .inl (eJ E, 68, .inr (.inl M.2.2.1))), (a 2, .inl (eJ E, 68, .inr (.inl M.2.2.2.1))), (a 3, .inl (eJ E, 340, .inr (.inl M.2.2.2.2.1))), (a 4, .inl (eI E, 3, .inl M.2.2.2.2.2.1)), (a 5, .inl (eI E, 120, .inl M.2.2.2.2.2.2.1)), (a 6, .inl (eI E, 60, .inl M.2.2.2.2.2.2.2.1)), (a 7, .inl (eI E, 120, .inl M.2.2.2.2.2.2.2.2))]) (pre := []) (post := []) (As := [.long (M.2.2.1 (11 + i11))]) (rest := []) (q0 := 0) ⟨hx, hb, hml, hown, hts⟩ hr39 (cwV 1 hts gX6_digest_X6_mix rfl rfl rfl qvX6_mix ⟨Nat.le_of_ble_eq_true rfl, Nat.le_of_ble_eq_true rfl⟩) hK hP hD hS hA rfl rfl rfl rfl rfl hl.1 rfl (Nat.le_of_ble_eq_true rfl) dX6_digest_72 ⟨Nat.zero_le _, Nat.zero_le _⟩ (fun H locs hP hD hS => ?_)
              refine lv_iinc (v := nI (i11 + 1)) (lv' := [(1, .int (nI (i11 + 1))), (0, .ref (a 0))]) (pc := 75) hx hb dX6_digest_75 hl (k := 1) rfl (nI_1 i11) (by decide) rfl (fun ls hl => ?_)
              refine lv_goto (tgt := 56) (pc := 78) hx hb dX6_digest_78 (by decide) ?_
              exact ih13 (i11 + 1) (by omega) _ _ _ (by rw [lpH_s]; exact hP) (by rw [lpH_s]; exact hD) hS (lv_sub hl [1, 0] rfl)
          exact loop14 13 0 (by decide) _ _ _ (by rw [lpH_0]; exact hP) (by rw [lpH_0]; exact hD) hS (lv_sub hl [1, 0] rfl)
        | succ n7 ih8 =>
          intro i6 hi H locs ls hP hD hS hl
          have hlt : i6 < 12 := by omega
          refine lv_iload_n (pc := 32) hx hb dX6_digest_32 rfl (lv_at hl 1 rfl) ?_
          refine lv_bipush (v := 12) (pc := 33) hx hb dX6_digest_33 rfl ?_
          refine lv_icmp_ge (tgt := 54) (pc := 35) hx hb dX6_digest_35 (by decide) (fun c_40 => ?_) (fun c_40 => ?_)
          · exact absurd c_40 (nI_ge (a := i6) (b := 12) (by omega) (by decide))
          refine lv_aload_n (pc := 38) hx hb dX6_digest_38 rfl (lv_at hl 0 rfl) ?_
          refine lv_aload_n (pc := 39) hx hb dX6_digest_39 rfl (lv_at hl 0 rfl) ?_
          refine lv_iload_n (pc := 40) hx hb dX6_digest_40 rfl (lv_at hl 1 rfl) ?_
          obtain ⟨r41, er41⟩ : ∃ z : Int32, fX6_toldOf M.2.2.1 (nI i6) = z := ⟨_, rfl⟩
          have hr41 := kX6_toldOf l E a (M.1, (lpH (fun i => (fX6_toldOf M.2.2.1 (nI i)).toInt64) (lpH (fun i => (fX6_refusedOf M.2.2.2.2.2.1 M.1 (nI i)).toInt64) 1690 5) i6), M.2.2.1, M.2.2.2.1, M.2.2.2.2.1, M.2.2.2.2.2.1, M.2.2.2.2.2.2.1, M.2.2.2.2.2.2.2.1, M.2.2.2.2.2.2.2.2) (nI i6) (hv_n 11 (by omega) (by decide))
          dsimp only at hr41
          rw [er41] at hr41
          refine gcVi (pc := 41) (w1 := [(a 0, .inr (6, [.ref (a 1), .ref (a 2), .ref (a 3), .int (M.1 0), .ref (a 4), .ref (a 5), .int (M.1 1), .int (M.1 2), .int (M.1 3), .ref (a 6), .ref (a 7), .int (M.1 4), .int (M.1 5), .int (M.1 6), .long (lpH (fun i => (fX6_toldOf M.2.2.1 (nI i)).toInt64) (lpH (fun i => (fX6_refusedOf M.2.2.2.2.2.1 M.1 (nI i)).toInt64) 1690 5) i6)])), (a 1, .inl (eJ E, 68, .inr (.inl M.2.2.1))), (a 2, .inl (eJ E, 68, .inr (.inl M.2.2.2.1))), (a 3, .inl (eJ E, 340, .inr (.inl M.2.2.2.2.1))), (a 4, .inl (eI E, 3, .inl M.2.2.2.2.2.1)), (a 5, .inl (eI E, 120, .inl M.2.2.2.2.2.2.1)), (a 6, .inl (eI E, 60, .inl M.2.2.2.2.2.2.2.1)), (a 7, .inl (eI E, 120, .inl M.2.2.2.2.2.2.2.2))]) (pre := []) (post := []) (As := [.int (nI i6)]) (rest := [.ref (a 0)]) (q0 := 0) ⟨hx, hb, hml, hown, hts⟩ hr41 (cwV 1 hts gX6_digest_X6_toldOf rfl rfl rfl qvX6_toldOf ⟨Nat.le_of_ble_eq_true rfl, Nat.le_of_ble_eq_true rfl⟩) hK hP hD hS hA rfl rfl rfl rfl rfl hl.1 rfl (Nat.le_of_ble_eq_true rfl) dX6_digest_41 ⟨Nat.zero_le _, Nat.zero_le _⟩ (fun H locs hP hD hS => ?_)
          refine lv_i2l (v := r41.toInt64) (pc := 44) hx hb dX6_digest_44 rfl ?_
          have hr42 := kX6_mix l E a (M.1, (lpH (fun i => (fX6_toldOf M.2.2.1 (nI i)).toInt64) (lpH (fun i => (fX6_refusedOf M.2.2.2.2.2.1 M.1 (nI i)).toInt64) 1690 5) i6), M.2.2.1, M.2.2.2.1, M.2.2.2.2.1, M.2.2.2.2.2.1, M.2.2.2.2.2.2.1, M.2.2.2.2.2.2.2.1, M.2.2.2.2.2.2.2.2) r41.toInt64
          refine gcVv (pc := 45) (w1 := [(a 0, .inr (6, [.ref (a 1), .ref (a 2), .ref (a 3), .int (M.1 0), .ref (a 4), .ref (a 5), .int (M.1 1), .int (M.1 2), .int (M.1 3), .ref (a 6), .ref (a 7), .int (M.1 4), .int (M.1 5), .int (M.1 6), .long ((31 * (lpH (fun i => (fX6_toldOf M.2.2.1 (nI i)).toInt64) (lpH (fun i => (fX6_refusedOf M.2.2.2.2.2.1 M.1 (nI i)).toInt64) 1690 5) i6)) + r41.toInt64)])), (a 1, .inl (eJ E, 68, .inr (.inl M.2.2.1))), (a 2, .inl (eJ E, 68, .inr (.inl M.2.2.2.1))), (a 3, .inl (eJ E, 340, .inr (.inl M.2.2.2.2.1))), (a 4, .inl (eI E, 3, .inl M.2.2.2.2.2.1)), (a 5, .inl (eI E, 120, .inl M.2.2.2.2.2.2.1)), (a 6, .inl (eI E, 60, .inl M.2.2.2.2.2.2.2.1)), (a 7, .inl (eI E, 120, .inl M.2.2.2.2.2.2.2.2))]) (pre := []) (post := []) (As := [.long r41.toInt64]) (rest := []) (q0 := 0) ⟨hx, hb, hml, hown, hts⟩ hr42 (cwV 1 hts gX6_digest_X6_mix rfl rfl rfl qvX6_mix ⟨Nat.le_of_ble_eq_true rfl, Nat.le_of_ble_eq_true rfl⟩) hK hP hD hS hA rfl rfl rfl rfl rfl hl.1 rfl (Nat.le_of_ble_eq_true rfl) dX6_digest_45 ⟨Nat.zero_le _, Nat.zero_le _⟩ (fun H locs hP hD hS => ?_)
          refine lv_iinc (v := nI (i6 + 1)) (lv' := [(1, .int (nI (i6 + 1))), (0, .ref (a 0))]) (pc := 48) hx hb dX6_digest_48 hl (k := 1) rfl (nI_1 i6) (by decide) rfl (fun ls hl => ?_)
          refine lv_goto (tgt := 32) (pc := 51) hx hb dX6_digest_51 (by decide) ?_
          subst er41
          exact ih8 (i6 + 1) (by omega) _ _ _ (by rw [lpH_s]; exact hP) (by rw [lpH_s]; exact hD) hS (lv_sub hl [1, 0] rfl)
      exact loop9 12 0 (by decide) _ _ _ (by rw [lpH_0]; exact hP) (by rw [lpH_0]; exact hD) hS (lv_sub hl [1, 0] rfl)
    | succ n2 ih3 =>
      intro i1 hi H locs ls hP hD hS hl
      have hlt : i1 < 5 := by omega
      refine lv_iload_n (pc := 9) hx hb dX6_digest_9 rfl (lv_at hl 1 rfl) ?_
      refine lv_iconst (v := 5) (pc := 10) hx hb dX6_digest_10 rfl ?_
      refine lv_icmp_ge (tgt := 30) (pc := 11) hx hb dX6_digest_11 (by decide) (fun c_43 => ?_) (fun c_43 => ?_)
      · exact absurd c_43 (nI_ge (a := i1) (b := 5) (by omega) (by decide))
      refine lv_aload_n (pc := 14) hx hb dX6_digest_14 rfl (lv_at hl 0 rfl) ?_
      refine lv_aload_n (pc := 15) hx hb dX6_digest_15 rfl (lv_at hl 0 rfl) ?_
      refine lv_iload_n (pc := 16) hx hb dX6_digest_16 rfl (lv_at hl 1 rfl) ?_
      obtain ⟨r44, er44⟩ : ∃ z : Int32, fX6_refusedOf M.2.2.2.2.2.1 M.1 (nI i1) = z := ⟨_, rfl⟩
      have hr44 := kX6_refusedOf l E a (M.1, (lpH (fun i => (fX6_refusedOf M.2.2.2.2.2.1 M.1 (nI i)).toInt64) 1690 i1), M.2.2.1, M.2.2.2.1, M.2.2.2.2.1, M.2.2.2.2.2.1, M.2.2.2.2.2.2.1, M.2.2.2.2.2.2.2.1, M.2.2.2.2.2.2.2.2) (nI i1) (hv_n 4 (by omega) (by decide))
      dsimp only at hr44
      rw [er44] at hr44
      refine gcVi (pc := 17) (w1 := [(a 0, .inr (6, [.ref (a 1), .ref (a 2), .ref (a 3), .int (M.1 0), .ref (a 4), .ref (a 5), .int (M.1 1), .int (M.1 2), .int (M.1 3), .ref (a 6), .ref (a 7), .int (M.1 4), .int (M.1 5), .int (M.1 6), .long (lpH (fun i => (fX6_refusedOf M.2.2.2.2.2.1 M.1 (nI i)).toInt64) 1690 i1)])), (a 1, .inl (eJ E, 68, .inr (.inl M.2.2.1))), (a 2, .inl (eJ E, 68, .inr (.inl M.2.2.2.1))), (a 3, .inl (eJ E, 340, .inr (.inl M.2.2.2.2.1))), (a 4, .inl (eI E, 3, .inl M.2.2.2.2.2.1)), (a 5, .inl (eI E, 120, .inl M.2.2.2.2.2.2.1)), (a 6, .inl (eI E, 60, .inl M.2.2.2.2.2.2.2.1)), (a 7, .inl (eI E, 120, .inl M.2.2.2.2.2.2.2.2))]) (pre := []) (post := []) (As := [.int (nI i1)]) (rest := [.ref (a 0)]) (q0 := 0) ⟨hx, hb, hml, hown, hts⟩ hr44 (cwV 1 hts gX6_digest_X6_refusedOf rfl rfl rfl qvX6_refusedOf ⟨Nat.le_of_ble_eq_true rfl, Nat.le_of_ble_eq_true rfl⟩) hK hP hD hS hA rfl rfl rfl rfl rfl hl.1 rfl (Nat.le_of_ble_eq_true rfl) dX6_digest_17 ⟨Nat.zero_le _, Nat.zero_le _⟩ (fun H locs hP hD hS => ?_)
      refine lv_i2l (v := r44.toInt64) (pc := 20) hx hb dX6_digest_20 rfl ?_
      have hr45 := kX6_mix l E a (M.1, (lpH (fun i => (fX6_refusedOf M.2.2.2.2.2.1 M.1 (nI i)).toInt64) 1690 i1), M.2.2.1, M.2.2.2.1, M.2.2.2.2.1, M.2.2.2.2.2.1, M.2.2.2.2.2.2.1, M.2.2.2.2.2.2.2.1, M.2.2.2.2.2.2.2.2) r44.toInt64
      refine gcVv (pc := 21) (w1 := [(a 0, .inr (6, [.ref (a 1), .ref (a 2), .ref (a 3), .int (M.1 0), .ref (a 4), .ref (a 5), .int (M.1 1), .int (M.1 2), .int (M.1 3), .ref (a 6), .ref (a 7), .int (M.1 4), .int (M.1 5), .int (M.1 6), .long ((31 * (lpH (fun i => (fX6_refusedOf M.2.2.2.2.2.1 M.1 (nI i)).toInt64) 1690 i1)) + r44.toInt64)])), (a 1, .inl (eJ E, 68, .inr (.inl M.2.2.1))), (a 2, .inl (eJ E, 68, .inr (.inl M.2.2.2.1))), (a 3, .inl (eJ E, 340, .inr (.inl M.2.2.2.2.1))), (a 4, .inl (eI E, 3, .inl M.2.2.2.2.2.1)), (a 5, .inl (eI E, 120, .inl M.2.2.2.2.2.2.1)), (a 6, .inl (eI E, 60, .inl M.2.2.2.2.2.2.2.1)), (a 7, .inl (eI E, 120, .inl M.2.2.2.2.2.2.2.2))]) (pre := []) (post := []) (As := [.long r44.toInt64]) (rest := []) (q0 := 0) ⟨hx, hb, hml, hown, hts⟩ hr45 (cwV 1 hts gX6_digest_X6_mix rfl rfl rfl qvX6_mix ⟨Nat.le_of_ble_eq_true rfl, Nat.le_of_ble_eq_true rfl⟩) hK hP hD hS hA rfl rfl rfl rfl rfl hl.1 rfl (Nat.le_of_ble_eq_true rfl) dX6_digest_21 ⟨Nat.zero_le _, Nat.zero_le _⟩ (fun H locs hP hD hS => ?_)
      refine lv_iinc (v := nI (i1 + 1)) (lv' := [(1, .int (nI (i1 + 1))), (0, .ref (a 0))]) (pc := 24) hx hb dX6_digest_24 hl (k := 1) rfl (nI_1 i1) (by decide) rfl (fun ls hl => ?_)
      refine lv_goto (tgt := 9) (pc := 27) hx hb dX6_digest_27 (by decide) ?_
      subst er44
      exact ih3 (i1 + 1) (by omega) _ _ _ (by rw [lpH_s]; exact hP) (by rw [lpH_s]; exact hD) hS (lv_sub hl [1, 0] rfl)
  exact loop4 5 0 (by decide) _ _ _ (by rw [lpH_0]; exact hP) (by rw [lpH_0]; exact hD) hS (lv_sub hl [1, 0] rfl)
