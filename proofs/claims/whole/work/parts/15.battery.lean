def fX1_middle (B : Bat) : Int32 :=
  let x1 : Int32 := (B.1 2) + (B.1 3)
  if 0 < x1 then
    let x3 : Int32 := (if 1000 < ((1000 * ((B.1 0) + (B.1 1))) / x1) then 1000 else ((1000 * ((B.1 0) + (B.1 1))) / x1))
    x3
  else
    0
abbrev rX1_middle : Room := { frames := 1, cells := 0, slots := 0, locals := 13 }
theorem mm_X1_middle_1 : Cond.fieldLink RX1 29 "GaugeBounds$Battery" "leastCapacity" "I" ∈ wsX1_middle := List.mem_of_getElem? (i := 1) rfl
theorem mm_X1_middle_2 : Cond.fieldLink RX1 32 "GaugeBounds$Battery" "mostCapacity" "I" ∈ wsX1_middle := List.mem_of_getElem? (i := 2) rfl
theorem mm_X1_middle_3 : Cond.fieldLink RX1 58 "GaugeBounds$Battery" "low" "I" ∈ wsX1_middle := List.mem_of_getElem? (i := 3) rfl
theorem mm_X1_middle_4 : Cond.fieldLink RX1 25 "GaugeBounds$Battery" "high" "I" ∈ wsX1_middle := List.mem_of_getElem? (i := 4) rfl
theorem mm_X1_middle_5 : Cond.methodLink RX1 94 Lib.Math.min.name ∈ wsX1_middle := List.mem_of_getElem? (i := 5) rfl
theorem mm_X1_middle_6 : Cond.static Lib.Math.min.name ∈ wsX1_middle := List.mem_of_getElem? (i := 6) rfl
theorem mm_X1_middle_7 : Cond.initialized "java/lang/Math" ∈ wsX1_middle := List.mem_of_getElem? (i := 7) rfl
theorem mm_X1_middle_8 : Cond.code Lib.Math.min.name Lib.Math.min.code 2 (some .int) ∈ wsX1_middle := List.mem_of_getElem? (i := 8) rfl
theorem ii_X1_middle_X1 : ∀ w ∈ wsX10, w ∈ wsX1_middle := fun _ h => List.mem_cons_of_mem _ (List.mem_append_right _ (h))
theorem qvX1_middle : yX1_middle.cls = RX1 ∧ yX1_middle.cls ≠ "java/lang/invoke/MethodHandle" ∧ yX1_middle.cls ≠ "java/lang/invoke/VarHandle" ∧ (parseMethodDescriptor yX1_middle.desc).map (fun d => d.parameters.length) = some 0 := by decide +kernel
set_option maxHeartbeats 4000000 in
set_option maxRecDepth 100000 in
theorem kX1_middle (l : Launch) (E : gEnv) (a : Nat → Nat) (B : Bat) : gMi l E yX1_middle wsX1_middle rX1_middle [.ref (a 0)] (wB E a B) (fX1_middle B) (wB E a B) := by
  refine gMi_of (cc := cX1_middle) (maxL := 2) (ret := (some .int)) (by decide) rfl rfl (Nat.le_of_ble_eq_true rfl) ?_
  intro p e s m args below meth c A Q ls hB hQ
  obtain ⟨hx, hb, hml, hown, hts, hK, hP, hD, hA, hS, hl⟩ := hB
  have hown : s.vm.findClass RX1 = some m.cls := hown
  have hP : va_P E.1 vwCl [(a 0, .inr (1, [.ref (a 1), .ref (a 3), .int (B.1 0), .int (B.1 1), .int (B.1 2), .int (B.1 3), .int (B.1 4), .int (B.1 5), .int (B.1 6), .int (B.1 7), .int (B.1 8), .int (B.1 9), .int (B.1 10), .int (B.1 11), .int (B.1 12)])), (a 1, .inr (2, [.ref (a 2)])), (a 2, .inl (eI E, 11, .inl B.2.1)), (a 3, .inr (0, [.ref (a 4), .ref (a 5)])), (a 4, .inl (eJ E, 22, .inr (.inl B.2.2.1))), (a 5, .inl (eI E, 22, .inl B.2.2.2))] s.heap := hP
  have hD : va_D A [(a 0, .inr (1, [.ref (a 1), .ref (a 3), .int (B.1 0), .int (B.1 1), .int (B.1 2), .int (B.1 3), .int (B.1 4), .int (B.1 5), .int (B.1 6), .int (B.1 7), .int (B.1 8), .int (B.1 9), .int (B.1 10), .int (B.1 11), .int (B.1 12)])), (a 1, .inr (2, [.ref (a 2)])), (a 2, .inl (eI E, 11, .inl B.2.1)), (a 3, .inr (0, [.ref (a 4), .ref (a 5)])), (a 4, .inl (eJ E, 22, .inr (.inl B.2.2.1))), (a 5, .inl (eI E, 22, .inl B.2.2.2))] := hD
  have hl : lv_has ls 2 [(0, .ref (a 0))] := hl
  refine lv_aload_n (pc := 0) hx hb dX1_middle_0 rfl (lv_at hl 0 rfl) ?_
  refine g_get (v := .int (B.1 2)) (pc := 1) hx hb hts ii_X1_middle_X1 hown hK.1 hP 0 rfl rfl 4 (by decide) ⟨rfl, rfl, rfl⟩ mm_X1_middle_1 rfl dX1_middle_1 ?_
  refine lv_aload_n (pc := 4) hx hb dX1_middle_4 rfl (lv_at hl 0 rfl) ?_
  refine g_get (v := .int (B.1 3)) (pc := 5) hx hb hts ii_X1_middle_X1 hown hK.1 hP 0 rfl rfl 5 (by decide) ⟨rfl, rfl, rfl⟩ mm_X1_middle_2 rfl dX1_middle_5 ?_
  refine lv_iadd (pc := 8) hx hb dX1_middle_8 ?_
  refine g_topi (fun x1 ex1 => ?_)
  refine lv_istore_n (lv' := [(1, .int x1), (0, .ref (a 0))]) (pc := 9) hx hb dX1_middle_9 rfl hl (by decide) rfl (fun ls hl => ?_)
  refine lv_iload_n (pc := 10) hx hb dX1_middle_10 rfl (lv_at hl 0 rfl) ?_
  refine lv_if_gt (tgt := 16) (pc := 11) hx hb dX1_middle_11 (by decide) (fun c_2 => ?_) (fun c_2 => ?_)
  · refine lv_sipush (v := 1000) (pc := 16) hx hb dX1_middle_16 rfl ?_
    refine lv_aload_n (pc := 19) hx hb dX1_middle_19 rfl (lv_at hl 1 rfl) ?_
    refine g_get (v := .int (B.1 0)) (pc := 20) hx hb hts ii_X1_middle_X1 hown hK.1 hP 0 rfl rfl 2 (by decide) ⟨rfl, rfl, rfl⟩ mm_X1_middle_3 rfl dX1_middle_20 ?_
    refine lv_aload_n (pc := 23) hx hb dX1_middle_23 rfl (lv_at hl 1 rfl) ?_
    refine g_get (v := .int (B.1 1)) (pc := 24) hx hb hts ii_X1_middle_X1 hown hK.1 hP 0 rfl rfl 3 (by decide) ⟨rfl, rfl, rfl⟩ mm_X1_middle_4 rfl dX1_middle_24 ?_
    refine lv_iadd (pc := 27) hx hb dX1_middle_27 ?_
    refine lv_imul (pc := 28) hx hb dX1_middle_28 ?_
    refine lv_iload_n (pc := 29) hx hb dX1_middle_29 rfl (lv_at hl 0 rfl) ?_
    refine lv_idiv (pc := 30) hx hb dX1_middle_30 (nz_p c_2) ?_
    refine lv_sipush (v := 1000) (pc := 31) hx hb dX1_middle_31 rfl ?_
    refine va_mmin (pc := 34) hx hb (hml.trans hl.1.symm) hown (hts _ mm_X1_middle_5) (hts _ mm_X1_middle_6) (hts _ mm_X1_middle_7) (hts _ mm_X1_middle_8) (Nat.le_of_ble_eq_true rfl) (Nat.le_of_ble_eq_true rfl) (Nat.zero_le _) (Nat.zero_le _) dX1_middle_34 ?_
    refine g_topi (fun x3 ex3 => ?_)
    subst ex3
    subst ex1
    have hfn : fX1_middle B = _ := if_pos c_2
    rw [hfn] at hQ
    exact hQ _ _ _ _ _ rfl hP hD hS dX1_middle_37
  · refine lv_iconst (v := 0) (pc := 14) hx hb dX1_middle_14 rfl ?_
    subst ex1
    have hfn : fX1_middle B = _ := if_neg c_2
    rw [hfn] at hQ
    exact hQ _ _ _ _ _ rfl hP hD hS dX1_middle_15

def fX1_showPassing (B : Bat) (i : Int32) (n : Int32) : Bat :=
  let r1 : Int32 := fX1_middle B
  let x2 : Int32 := r1 / 10
  let x4 : Int32 := (if i ≤ 0 then (if 0 ≤ i then (B.1 12) else (let x5 : Int32 := (if x2 < ((B.1 12) + n) then x2 else ((B.1 12) + n)); (let x6 : Int32 := (if (B.1 12) < x5 then x5 else (B.1 12)); x6))) else (let x7 : Int32 := (if ((B.1 12) - n) < x2 then x2 else ((B.1 12) - n)); (let x8 : Int32 := (if x7 < (B.1 12) then x7 else (B.1 12)); x8)))
  ((upd B.1 12 x4), B.2.1, B.2.2.1, B.2.2.2)
abbrev rX1_showPassing : Room := { frames := 2, cells := 0, slots := 0, locals := 34 }
theorem mm_X1_showPassing_1 : Cond.fieldLink RX1 48 "GaugeBounds$Battery" "shown" "I" ∈ wsX1_showPassing := List.mem_of_getElem? (i := 1) rfl
theorem mm_X1_showPassing_6 : Cond.methodLink RX1 94 Lib.Math.min.name ∈ wsX1_showPassing := List.mem_of_getElem? (i := 6) rfl
theorem mm_X1_showPassing_7 : Cond.static Lib.Math.min.name ∈ wsX1_showPassing := List.mem_of_getElem? (i := 7) rfl
theorem mm_X1_showPassing_4 : Cond.initialized "java/lang/Math" ∈ wsX1_showPassing := List.mem_of_getElem? (i := 4) rfl
theorem mm_X1_showPassing_8 : Cond.code Lib.Math.min.name Lib.Math.min.code 2 (some .int) ∈ wsX1_showPassing := List.mem_of_getElem? (i := 8) rfl
theorem mm_X1_showPassing_2 : Cond.methodLink RX1 89 Lib.Math.max.name ∈ wsX1_showPassing := List.mem_of_getElem? (i := 2) rfl
theorem mm_X1_showPassing_3 : Cond.static Lib.Math.max.name ∈ wsX1_showPassing := List.mem_of_getElem? (i := 3) rfl
theorem mm_X1_showPassing_5 : Cond.code Lib.Math.max.name Lib.Math.max.code 2 (some .int) ∈ wsX1_showPassing := List.mem_of_getElem? (i := 5) rfl
theorem ii_X1_showPassing_X1 : ∀ w ∈ wsX10, w ∈ wsX1_showPassing := fun _ h => List.mem_cons_of_mem _ (List.mem_append_right _ (h))
theorem qvX1_showPassing : yX1_showPassing.cls = RX1 ∧ yX1_showPassing.cls ≠ "java/lang/invoke/MethodHandle" ∧ yX1_showPassing.cls ≠ "java/lang/invoke/VarHandle" ∧ (parseMethodDescriptor yX1_showPassing.desc).map (fun d => d.parameters.length) = some 2 := by decide +kernel
set_option maxHeartbeats 4000000 in
set_option maxRecDepth 100000 in
theorem kX1_showPassing (l : Launch) (E : gEnv) (a : Nat → Nat) (B : Bat) (i : Int32) (n : Int32) : gMv l E yX1_showPassing wsX1_showPassing rX1_showPassing [.ref (a 0), .int i, .int n] (wB E a B) (wB E a (fX1_showPassing B i n)) := by
  refine gMv_of (cc := cX1_showPassing) (maxL := 4) (ret := none) (by decide) rfl rfl (Nat.le_of_ble_eq_true rfl) ?_
  intro p e s m args below meth c A Q ls hB hQ
  obtain ⟨hx, hb, hml, hown, hts, hK, hP, hD, hA, hS, hl⟩ := hB
  have hown : s.vm.findClass RX1 = some m.cls := hown
  have hP : va_P E.1 vwCl [(a 0, .inr (1, [.ref (a 1), .ref (a 3), .int (B.1 0), .int (B.1 1), .int (B.1 2), .int (B.1 3), .int (B.1 4), .int (B.1 5), .int (B.1 6), .int (B.1 7), .int (B.1 8), .int (B.1 9), .int (B.1 10), .int (B.1 11), .int (B.1 12)])), (a 1, .inr (2, [.ref (a 2)])), (a 2, .inl (eI E, 11, .inl B.2.1)), (a 3, .inr (0, [.ref (a 4), .ref (a 5)])), (a 4, .inl (eJ E, 22, .inr (.inl B.2.2.1))), (a 5, .inl (eI E, 22, .inl B.2.2.2))] s.heap := hP
  have hD : va_D A [(a 0, .inr (1, [.ref (a 1), .ref (a 3), .int (B.1 0), .int (B.1 1), .int (B.1 2), .int (B.1 3), .int (B.1 4), .int (B.1 5), .int (B.1 6), .int (B.1 7), .int (B.1 8), .int (B.1 9), .int (B.1 10), .int (B.1 11), .int (B.1 12)])), (a 1, .inr (2, [.ref (a 2)])), (a 2, .inl (eI E, 11, .inl B.2.1)), (a 3, .inr (0, [.ref (a 4), .ref (a 5)])), (a 4, .inl (eJ E, 22, .inr (.inl B.2.2.1))), (a 5, .inl (eI E, 22, .inl B.2.2.2))] := hD
  have hl : lv_has ls 4 [(0, .ref (a 0)), (1, .int i), (2, .int n)] := hl
  refine lv_aload_n (pc := 0) hx hb dX1_showPassing_0 rfl (lv_at hl 0 rfl) ?_
  obtain ⟨r1, er1⟩ : ∃ z : Int32, fX1_middle B = z := ⟨_, rfl⟩
  have hr1 := kX1_middle l E a B
  rw [er1] at hr1
  refine gcVi (pc := 1) (w1 := [(a 0, .inr (1, [.ref (a 1), .ref (a 3), .int (B.1 0), .int (B.1 1), .int (B.1 2), .int (B.1 3), .int (B.1 4), .int (B.1 5), .int (B.1 6), .int (B.1 7), .int (B.1 8), .int (B.1 9), .int (B.1 10), .int (B.1 11), .int (B.1 12)])), (a 1, .inr (2, [.ref (a 2)])), (a 2, .inl (eI E, 11, .inl B.2.1)), (a 3, .inr (0, [.ref (a 4), .ref (a 5)])), (a 4, .inl (eJ E, 22, .inr (.inl B.2.2.1))), (a 5, .inl (eI E, 22, .inl B.2.2.2))]) (pre := []) (post := []) (As := []) (rest := []) (q0 := 0) ⟨hx, hb, hml, hown, hts⟩ hr1 (cwV 0 hts gX1_showPassing_X1_middle rfl rfl rfl qvX1_middle ⟨Nat.le_of_ble_eq_true rfl, Nat.le_of_ble_eq_true rfl⟩) hK hP hD hS hA rfl rfl rfl rfl rfl hl.1 rfl (Nat.le_of_ble_eq_true rfl) dX1_showPassing_1 ⟨Nat.zero_le _, Nat.zero_le _⟩ (fun H locs hP hD hS => ?_)
  refine lv_bipush (v := 10) (pc := 4) hx hb dX1_showPassing_4 rfl ?_
  refine lv_idiv (pc := 6) hx hb dX1_showPassing_6 (by decide) ?_
  refine g_topi (fun x2 ex2 => ?_)
  refine lv_istore_n (lv' := [(3, .int x2), (0, .ref (a 0)), (1, .int i), (2, .int n)]) (pc := 7) hx hb dX1_showPassing_7 rfl hl (by decide) rfl (fun ls hl => ?_)
  refine lv_iload_n (pc := 8) hx hb dX1_showPassing_8 rfl (lv_at hl 2 rfl) ?_
  have J_5 : ∀ (H : Heap) (locs : List Loc) (ls : Array Slot) (x4 : Int32), (if i ≤ 0 then (if 0 ≤ i then (B.1 12) else (let x5 : Int32 := (if x2 < ((B.1 12) + n) then x2 else ((B.1 12) + n)); (let x6 : Int32 := (if (B.1 12) < x5 then x5 else (B.1 12)); x6))) else (let x7 : Int32 := (if ((B.1 12) - n) < x2 then x2 else ((B.1 12) - n)); (let x8 : Int32 := (if x7 < (B.1 12) then x7 else (B.1 12)); x8))) = x4 → va_P E.1 vwCl [(a 0, .inr (1, [.ref (a 1), .ref (a 3), .int (B.1 0), .int (B.1 1), .int (B.1 2), .int (B.1 3), .int (B.1 4), .int (B.1 5), .int (B.1 6), .int (B.1 7), .int (B.1 8), .int (B.1 9), .int (B.1 10), .int (B.1 11), .int x4])), (a 1, .inr (2, [.ref (a 2)])), (a 2, .inl (eI E, 11, .inl B.2.1)), (a 3, .inr (0, [.ref (a 4), .ref (a 5)])), (a 4, .inl (eJ E, 22, .inr (.inl B.2.2.1))), (a 5, .inl (eI E, 22, .inl B.2.2.2))] H → va_D A [(a 0, .inr (1, [.ref (a 1), .ref (a 3), .int (B.1 0), .int (B.1 1), .int (B.1 2), .int (B.1 3), .int (B.1 4), .int (B.1 5), .int (B.1 6), .int (B.1 7), .int (B.1 8), .int (B.1 9), .int (B.1 10), .int (B.1 11), .int x4])), (a 1, .inr (2, [.ref (a 2)])), (a 2, .inl (eI E, 11, .inl B.2.1)), (a 3, .inr (0, [.ref (a 4), .ref (a 5)])), (a 4, .inl (eJ E, 22, .inr (.inl B.2.2.1))), (a 5, .inl (eI E, 22, .inl B.2.2.2))] → va_S A s.heap H locs → lv_has ls 4 [(0, .ref (a 0)), (1, .int i), (2, .int n), (3, .int x2)] → W p l e rX1_showPassing s m args below meth c H locs 0 0 Q (F0 m 61 ls []) := by
    intro H locs ls x4 ex4 hP hD hS hl
    subst ex4
    subst ex2
    subst er1
    exact hQ _ _ _ _ hP hD hS dX1_showPassing_61
  refine lv_if_le (tgt := 36) (pc := 9) hx hb dX1_showPassing_9 (by decide) (fun c_3 => ?_) (fun c_3 => ?_)
  · refine lv_iload_n (pc := 36) hx hb dX1_showPassing_36 rfl (lv_at hl 2 rfl) ?_
    refine lv_if_ge (tgt := 61) (pc := 37) hx hb dX1_showPassing_37 (by decide) (fun c_4 => ?_) (fun c_4 => ?_)
    · exact J_5 _ _ _ _ ((if_pos c_3).trans (if_pos c_4)) hP hD hS (lv_sub hl [1, 2, 3, 0] rfl)
    · refine lv_aload_n (pc := 40) hx hb dX1_showPassing_40 rfl (lv_at hl 1 rfl) ?_
      refine lv_aload_n (pc := 41) hx hb dX1_showPassing_41 rfl (lv_at hl 1 rfl) ?_
      refine g_get (v := .int (B.1 12)) (pc := 42) hx hb hts ii_X1_showPassing_X1 hown hK.1 hP 0 rfl rfl 14 (by decide) ⟨rfl, rfl, rfl⟩ mm_X1_showPassing_1 rfl dX1_showPassing_42 ?_
      refine lv_aload_n (pc := 45) hx hb dX1_showPassing_45 rfl (lv_at hl 1 rfl) ?_
      refine g_get (v := .int (B.1 12)) (pc := 46) hx hb hts ii_X1_showPassing_X1 hown hK.1 hP 0 rfl rfl 14 (by decide) ⟨rfl, rfl, rfl⟩ mm_X1_showPassing_1 rfl dX1_showPassing_46 ?_
      refine lv_iload_n (pc := 49) hx hb dX1_showPassing_49 rfl (lv_at hl 3 rfl) ?_
      refine lv_iadd (pc := 50) hx hb dX1_showPassing_50 ?_
      refine lv_iload_n (pc := 51) hx hb dX1_showPassing_51 rfl (lv_at hl 0 rfl) ?_
      refine va_mmin (pc := 52) hx hb (hml.trans hl.1.symm) hown (hts _ mm_X1_showPassing_6) (hts _ mm_X1_showPassing_7) (hts _ mm_X1_showPassing_4) (hts _ mm_X1_showPassing_8) (Nat.le_of_ble_eq_true rfl) (Nat.le_of_ble_eq_true rfl) (Nat.zero_le _) (Nat.zero_le _) dX1_showPassing_52 ?_
      refine g_topi (fun x5 ex5 => ?_)
      refine va_mmax (pc := 55) hx hb (hml.trans hl.1.symm) hown (hts _ mm_X1_showPassing_2) (hts _ mm_X1_showPassing_3) (hts _ mm_X1_showPassing_4) (hts _ mm_X1_showPassing_5) (Nat.le_of_ble_eq_true rfl) (Nat.le_of_ble_eq_true rfl) (Nat.zero_le _) (Nat.zero_le _) dX1_showPassing_55 ?_
      refine g_topi (fun x6 ex6 => ?_)
      refine g_put (w1 := [(a 0, .inr (1, [.ref (a 1), .ref (a 3), .int (B.1 0), .int (B.1 1), .int (B.1 2), .int (B.1 3), .int (B.1 4), .int (B.1 5), .int (B.1 6), .int (B.1 7), .int (B.1 8), .int (B.1 9), .int (B.1 10), .int (B.1 11), .int x6])), (a 1, .inr (2, [.ref (a 2)])), (a 2, .inl (eI E, 11, .inl B.2.1)), (a 3, .inr (0, [.ref (a 4), .ref (a 5)])), (a 4, .inl (eJ E, 22, .inr (.inl B.2.2.1))), (a 5, .inl (eI E, 22, .inl B.2.2.2))]) (pc := 58) hx hb hts ii_X1_showPassing_X1 tyX1 tyX1_ok nmX1 hown hK.1 hP hD hS 0 rfl rfl 14 (by decide) ⟨rfl, rfl, rfl⟩ mm_X1_showPassing_1 rfl rfl rfl rfl (Nat.le_of_ble_eq_true rfl) rfl dX1_showPassing_58 (fun H locs hP hD hS => ?_)
      subst ex6
      subst ex5
      exact J_5 _ _ _ _ ((if_pos c_3).trans (if_neg c_4)) hP hD hS (lv_sub hl [1, 2, 3, 0] rfl)
  · refine lv_aload_n (pc := 12) hx hb dX1_showPassing_12 rfl (lv_at hl 1 rfl) ?_
    refine lv_aload_n (pc := 13) hx hb dX1_showPassing_13 rfl (lv_at hl 1 rfl) ?_
    refine g_get (v := .int (B.1 12)) (pc := 14) hx hb hts ii_X1_showPassing_X1 hown hK.1 hP 0 rfl rfl 14 (by decide) ⟨rfl, rfl, rfl⟩ mm_X1_showPassing_1 rfl dX1_showPassing_14 ?_
    refine lv_aload_n (pc := 17) hx hb dX1_showPassing_17 rfl (lv_at hl 1 rfl) ?_
    refine g_get (v := .int (B.1 12)) (pc := 18) hx hb hts ii_X1_showPassing_X1 hown hK.1 hP 0 rfl rfl 14 (by decide) ⟨rfl, rfl, rfl⟩ mm_X1_showPassing_1 rfl dX1_showPassing_18 ?_
    refine lv_iload_n (pc := 21) hx hb dX1_showPassing_21 rfl (lv_at hl 3 rfl) ?_
    refine lv_isub (pc := 22) hx hb dX1_showPassing_22 ?_
    refine lv_iload_n (pc := 23) hx hb dX1_showPassing_23 rfl (lv_at hl 0 rfl) ?_
    refine va_mmax (pc := 24) hx hb (hml.trans hl.1.symm) hown (hts _ mm_X1_showPassing_2) (hts _ mm_X1_showPassing_3) (hts _ mm_X1_showPassing_4) (hts _ mm_X1_showPassing_5) (Nat.le_of_ble_eq_true rfl) (Nat.le_of_ble_eq_true rfl) (Nat.zero_le _) (Nat.zero_le _) dX1_showPassing_24 ?_
    refine g_topi (fun x7 ex7 => ?_)
    refine va_mmin (pc := 27) hx hb (hml.trans hl.1.symm) hown (hts _ mm_X1_showPassing_6) (hts _ mm_X1_showPassing_7) (hts _ mm_X1_showPassing_4) (hts _ mm_X1_showPassing_8) (Nat.le_of_ble_eq_true rfl) (Nat.le_of_ble_eq_true rfl) (Nat.zero_le _) (Nat.zero_le _) dX1_showPassing_27 ?_
    refine g_topi (fun x8 ex8 => ?_)
    refine g_put (w1 := [(a 0, .inr (1, [.ref (a 1), .ref (a 3), .int (B.1 0), .int (B.1 1), .int (B.1 2), .int (B.1 3), .int (B.1 4), .int (B.1 5), .int (B.1 6), .int (B.1 7), .int (B.1 8), .int (B.1 9), .int (B.1 10), .int (B.1 11), .int x8])), (a 1, .inr (2, [.ref (a 2)])), (a 2, .inl (eI E, 11, .inl B.2.1)), (a 3, .inr (0, [.ref (a 4), .ref (a 5)])), (a 4, .inl (eJ E, 22, .inr (.inl B.2.2.1))), (a 5, .inl (eI E, 22, .inl B.2.2.2))]) (pc := 30) hx hb hts ii_X1_showPassing_X1 tyX1 tyX1_ok nmX1 hown hK.1 hP hD hS 0 rfl rfl 14 (by decide) ⟨rfl, rfl, rfl⟩ mm_X1_showPassing_1 rfl rfl rfl rfl (Nat.le_of_ble_eq_true rfl) rfl dX1_showPassing_30 (fun H locs hP hD hS => ?_)
    refine lv_goto (tgt := 61) (pc := 33) hx hb dX1_showPassing_33 (by decide) ?_
    subst ex8
    subst ex7
    exact J_5 _ _ _ _ (if_neg c_3) hP hD hS (lv_sub hl [1, 2, 3, 0] rfl)

def fX1_showEmpty (B : Bat) : Bat :=
  let x2 : Int32 := (if (B.1 1) = 0 then 0 else (B.1 12))
  ((upd B.1 12 x2), B.2.1, B.2.2.1, B.2.2.2)
abbrev rX1_showEmpty : Room := { frames := 0, cells := 0, slots := 0, locals := 0 }
theorem mm_X1_showEmpty_1 : Cond.fieldLink RX1 25 "GaugeBounds$Battery" "high" "I" ∈ wsX1_showEmpty := List.mem_of_getElem? (i := 1) rfl
theorem mm_X1_showEmpty_2 : Cond.fieldLink RX1 48 "GaugeBounds$Battery" "shown" "I" ∈ wsX1_showEmpty := List.mem_of_getElem? (i := 2) rfl
theorem ii_X1_showEmpty_X1 : ∀ w ∈ wsX10, w ∈ wsX1_showEmpty := fun _ h => List.mem_cons_of_mem _ (List.mem_append_right _ (h))
theorem qvX1_showEmpty : yX1_showEmpty.cls = RX1 ∧ yX1_showEmpty.cls ≠ "java/lang/invoke/MethodHandle" ∧ yX1_showEmpty.cls ≠ "java/lang/invoke/VarHandle" ∧ (parseMethodDescriptor yX1_showEmpty.desc).map (fun d => d.parameters.length) = some 0 := by decide +kernel
set_option maxHeartbeats 4000000 in
set_option maxRecDepth 100000 in
theorem kX1_showEmpty (l : Launch) (E : gEnv) (a : Nat → Nat) (B : Bat) : gMv l E yX1_showEmpty wsX1_showEmpty rX1_showEmpty [.ref (a 0)] (wB E a B) (wB E a (fX1_showEmpty B)) := by
  refine gMv_of (cc := cX1_showEmpty) (maxL := 1) (ret := none) (by decide) rfl rfl (Nat.le_of_ble_eq_true rfl) ?_
  intro p e s m args below meth c A Q ls hB hQ
  obtain ⟨hx, hb, hml, hown, hts, hK, hP, hD, hA, hS, hl⟩ := hB
  have hown : s.vm.findClass RX1 = some m.cls := hown
  have hP : va_P E.1 vwCl [(a 0, .inr (1, [.ref (a 1), .ref (a 3), .int (B.1 0), .int (B.1 1), .int (B.1 2), .int (B.1 3), .int (B.1 4), .int (B.1 5), .int (B.1 6), .int (B.1 7), .int (B.1 8), .int (B.1 9), .int (B.1 10), .int (B.1 11), .int (B.1 12)])), (a 1, .inr (2, [.ref (a 2)])), (a 2, .inl (eI E, 11, .inl B.2.1)), (a 3, .inr (0, [.ref (a 4), .ref (a 5)])), (a 4, .inl (eJ E, 22, .inr (.inl B.2.2.1))), (a 5, .inl (eI E, 22, .inl B.2.2.2))] s.heap := hP
  have hD : va_D A [(a 0, .inr (1, [.ref (a 1), .ref (a 3), .int (B.1 0), .int (B.1 1), .int (B.1 2), .int (B.1 3), .int (B.1 4), .int (B.1 5), .int (B.1 6), .int (B.1 7), .int (B.1 8), .int (B.1 9), .int (B.1 10), .int (B.1 11), .int (B.1 12)])), (a 1, .inr (2, [.ref (a 2)])), (a 2, .inl (eI E, 11, .inl B.2.1)), (a 3, .inr (0, [.ref (a 4), .ref (a 5)])), (a 4, .inl (eJ E, 22, .inr (.inl B.2.2.1))), (a 5, .inl (eI E, 22, .inl B.2.2.2))] := hD
  have hl : lv_has ls 1 [(0, .ref (a 0))] := hl
  refine lv_aload_n (pc := 0) hx hb dX1_showEmpty_0 rfl (lv_at hl 0 rfl) ?_
  refine g_get (v := .int (B.1 1)) (pc := 1) hx hb hts ii_X1_showEmpty_X1 hown hK.1 hP 0 rfl rfl 3 (by decide) ⟨rfl, rfl, rfl⟩ mm_X1_showEmpty_1 rfl dX1_showEmpty_1 ?_
  have J_3 : ∀ (H : Heap) (locs : List Loc) (ls : Array Slot) (x2 : Int32), (if (B.1 1) = 0 then 0 else (B.1 12)) = x2 → va_P E.1 vwCl [(a 0, .inr (1, [.ref (a 1), .ref (a 3), .int (B.1 0), .int (B.1 1), .int (B.1 2), .int (B.1 3), .int (B.1 4), .int (B.1 5), .int (B.1 6), .int (B.1 7), .int (B.1 8), .int (B.1 9), .int (B.1 10), .int (B.1 11), .int x2])), (a 1, .inr (2, [.ref (a 2)])), (a 2, .inl (eI E, 11, .inl B.2.1)), (a 3, .inr (0, [.ref (a 4), .ref (a 5)])), (a 4, .inl (eJ E, 22, .inr (.inl B.2.2.1))), (a 5, .inl (eI E, 22, .inl B.2.2.2))] H → va_D A [(a 0, .inr (1, [.ref (a 1), .ref (a 3), .int (B.1 0), .int (B.1 1), .int (B.1 2), .int (B.1 3), .int (B.1 4), .int (B.1 5), .int (B.1 6), .int (B.1 7), .int (B.1 8), .int (B.1 9), .int (B.1 10), .int (B.1 11), .int x2])), (a 1, .inr (2, [.ref (a 2)])), (a 2, .inl (eI E, 11, .inl B.2.1)), (a 3, .inr (0, [.ref (a 4), .ref (a 5)])), (a 4, .inl (eJ E, 22, .inr (.inl B.2.2.1))), (a 5, .inl (eI E, 22, .inl B.2.2.2))] → va_S A s.heap H locs → lv_has ls 1 [(0, .ref (a 0))] → W p l e rX1_showEmpty s m args below meth c H locs 0 0 Q (F0 m 12 ls []) := by
    intro H locs ls x2 ex2 hP hD hS hl
    subst ex2
    exact hQ _ _ _ _ hP hD hS dX1_showEmpty_12
  refine lv_if_ne (tgt := 12) (pc := 4) hx hb dX1_showEmpty_4 (by decide) (fun c_1 => ?_) (fun c_1 => ?_)
  · exact J_3 _ _ _ _ (if_neg c_1) hP hD hS (lv_sub hl [0] rfl)
  · refine lv_aload_n (pc := 7) hx hb dX1_showEmpty_7 rfl (lv_at hl 0 rfl) ?_
    refine lv_iconst (v := 0) (pc := 8) hx hb dX1_showEmpty_8 rfl ?_
    refine g_put (w1 := [(a 0, .inr (1, [.ref (a 1), .ref (a 3), .int (B.1 0), .int (B.1 1), .int (B.1 2), .int (B.1 3), .int (B.1 4), .int (B.1 5), .int (B.1 6), .int (B.1 7), .int (B.1 8), .int (B.1 9), .int (B.1 10), .int (B.1 11), .int 0])), (a 1, .inr (2, [.ref (a 2)])), (a 2, .inl (eI E, 11, .inl B.2.1)), (a 3, .inr (0, [.ref (a 4), .ref (a 5)])), (a 4, .inl (eJ E, 22, .inr (.inl B.2.2.1))), (a 5, .inl (eI E, 22, .inl B.2.2.2))]) (pc := 9) hx hb hts ii_X1_showEmpty_X1 tyX1 tyX1_ok nmX1 hown hK.1 hP hD hS 0 rfl rfl 14 (by decide) ⟨rfl, rfl, rfl⟩ mm_X1_showEmpty_2 rfl rfl rfl rfl (Nat.le_of_ble_eq_true rfl) rfl dX1_showEmpty_9 (fun H locs hP hD hS => ?_)
    exact J_3 _ _ _ _ (if_pos c_1) hP hD hS (lv_sub hl [0] rfl)

def fX1_putOffset (B : Bat) (n : Int32) : Int32 × (Bat) :=
  let r1 : Int32 := fX5_within n 0 9
  if r1 = 0 then
    ((-10000002), B)
  else
    let x3 : Int32 := B.1 4
    (x3, ((upd B.1 4 n), B.2.1, B.2.2.1, B.2.2.2))
abbrev rX1_putOffset : Room := { frames := 1, cells := 0, slots := 0, locals := 22 }
theorem mm_X1_putOffset_4 : Cond.initialized RX5 ∈ wsX1_putOffset := List.mem_of_getElem? (i := 4) rfl
theorem mm_X1_putOffset_3 : Cond.static yX5_within ∈ wsX1_putOffset := List.mem_of_getElem? (i := 3) rfl
theorem mm_X1_putOffset_2 : Cond.fieldLink RX1 35 "GaugeBounds$Battery" "offset" "I" ∈ wsX1_putOffset := List.mem_of_getElem? (i := 2) rfl
theorem mm_X1_putOffset_1 : Cond.constant RX1 77 (-10000002) ∈ wsX1_putOffset := List.mem_of_getElem? (i := 1) rfl
theorem ii_X1_putOffset_X1 : ∀ w ∈ wsX10, w ∈ wsX1_putOffset := fun _ h => List.mem_cons_of_mem _ (List.mem_append_right _ (h))
theorem qvX1_putOffset : yX1_putOffset.cls = RX1 ∧ yX1_putOffset.cls ≠ "java/lang/invoke/MethodHandle" ∧ yX1_putOffset.cls ≠ "java/lang/invoke/VarHandle" ∧ (parseMethodDescriptor yX1_putOffset.desc).map (fun d => d.parameters.length) = some 1 := by decide +kernel
set_option maxHeartbeats 4000000 in
set_option maxRecDepth 100000 in
theorem kX1_putOffset (l : Launch) (E : gEnv) (a : Nat → Nat) (B : Bat) (n : Int32) : gMi l E yX1_putOffset wsX1_putOffset rX1_putOffset [.ref (a 0), .int n] (wB E a B) (fX1_putOffset B n).1 (wB E a ((fX1_putOffset B n).2)) := by
  refine gMi_of (cc := cX1_putOffset) (maxL := 3) (ret := (some .int)) (by decide) rfl rfl (Nat.le_of_ble_eq_true rfl) ?_
  intro p e s m args below meth c A Q ls hB hQ
  obtain ⟨hx, hb, hml, hown, hts, hK, hP, hD, hA, hS, hl⟩ := hB
  have hown : s.vm.findClass RX1 = some m.cls := hown
  have hP : va_P E.1 vwCl [(a 0, .inr (1, [.ref (a 1), .ref (a 3), .int (B.1 0), .int (B.1 1), .int (B.1 2), .int (B.1 3), .int (B.1 4), .int (B.1 5), .int (B.1 6), .int (B.1 7), .int (B.1 8), .int (B.1 9), .int (B.1 10), .int (B.1 11), .int (B.1 12)])), (a 1, .inr (2, [.ref (a 2)])), (a 2, .inl (eI E, 11, .inl B.2.1)), (a 3, .inr (0, [.ref (a 4), .ref (a 5)])), (a 4, .inl (eJ E, 22, .inr (.inl B.2.2.1))), (a 5, .inl (eI E, 22, .inl B.2.2.2))] s.heap := hP
  have hD : va_D A [(a 0, .inr (1, [.ref (a 1), .ref (a 3), .int (B.1 0), .int (B.1 1), .int (B.1 2), .int (B.1 3), .int (B.1 4), .int (B.1 5), .int (B.1 6), .int (B.1 7), .int (B.1 8), .int (B.1 9), .int (B.1 10), .int (B.1 11), .int (B.1 12)])), (a 1, .inr (2, [.ref (a 2)])), (a 2, .inl (eI E, 11, .inl B.2.1)), (a 3, .inr (0, [.ref (a 4), .ref (a 5)])), (a 4, .inl (eJ E, 22, .inr (.inl B.2.2.1))), (a 5, .inl (eI E, 22, .inl B.2.2.2))] := hD
  have hl : lv_has ls 3 [(0, .ref (a 0)), (1, .int n)] := hl
  refine lv_iload_n (pc := 0) hx hb dX1_putOffset_0 rfl (lv_at hl 1 rfl) ?_
  refine lv_iconst (v := 0) (pc := 1) hx hb dX1_putOffset_1 rfl ?_
  refine lv_bipush (v := 9) (pc := 2) hx hb dX1_putOffset_2 rfl ?_
  obtain ⟨r1, er1⟩ : ∃ z : Int32, fX5_within n 0 9 = z := ⟨_, rfl⟩
  have hr1 := kX5_within l E n 0 9
  rw [er1] at hr1
  refine gcNi (pc := 4) (As := [.int n, .int 0, .int 9]) (rest := []) ⟨hx, hb, hml, hown, hts⟩ hr1 ⟨va_cnB 3 hts ggX1_putOffset_X5_within rfl rfl rfl hK.2.2.1 (hts _ mm_X1_putOffset_4) qnX5_within ⟨Nat.le_of_ble_eq_true rfl, Nat.le_of_ble_eq_true rfl⟩, hts _ mm_X1_putOffset_3, trivial⟩ hK hP hD hS hA rfl hl.1 rfl (Nat.le_of_ble_eq_true rfl) dX1_putOffset_4 ⟨Nat.zero_le _, Nat.zero_le _⟩ (fun H locs hP hD hS => ?_)
  refine lv_if_ne (tgt := 13) (pc := 7) hx hb dX1_putOffset_7 (by decide) (fun c_2 => ?_) (fun c_2 => ?_)
  · refine lv_aload_n (pc := 13) hx hb dX1_putOffset_13 rfl (lv_at hl 0 rfl) ?_
    refine g_get (v := .int (B.1 4)) (pc := 14) hx hb hts ii_X1_putOffset_X1 hown hK.1 hP 0 rfl rfl 6 (by decide) ⟨rfl, rfl, rfl⟩ mm_X1_putOffset_2 rfl dX1_putOffset_14 ?_
    refine g_topi (fun x3 ex3 => ?_)
    refine lv_istore_n (lv' := [(2, .int x3), (0, .ref (a 0)), (1, .int n)]) (pc := 17) hx hb dX1_putOffset_17 rfl hl (by decide) rfl (fun ls hl => ?_)
    refine lv_aload_n (pc := 18) hx hb dX1_putOffset_18 rfl (lv_at hl 1 rfl) ?_
    refine lv_iload_n (pc := 19) hx hb dX1_putOffset_19 rfl (lv_at hl 2 rfl) ?_
    refine g_put (w1 := [(a 0, .inr (1, [.ref (a 1), .ref (a 3), .int (B.1 0), .int (B.1 1), .int (B.1 2), .int (B.1 3), .int n, .int (B.1 5), .int (B.1 6), .int (B.1 7), .int (B.1 8), .int (B.1 9), .int (B.1 10), .int (B.1 11), .int (B.1 12)])), (a 1, .inr (2, [.ref (a 2)])), (a 2, .inl (eI E, 11, .inl B.2.1)), (a 3, .inr (0, [.ref (a 4), .ref (a 5)])), (a 4, .inl (eJ E, 22, .inr (.inl B.2.2.1))), (a 5, .inl (eI E, 22, .inl B.2.2.2))]) (pc := 20) hx hb hts ii_X1_putOffset_X1 tyX1 tyX1_ok nmX1 hown hK.1 hP hD hS 0 rfl rfl 6 (by decide) ⟨rfl, rfl, rfl⟩ mm_X1_putOffset_2 rfl rfl rfl rfl (Nat.le_of_ble_eq_true rfl) rfl dX1_putOffset_20 (fun H locs hP hD hS => ?_)
    refine lv_iload_n (pc := 23) hx hb dX1_putOffset_23 rfl (lv_at hl 0 rfl) ?_
    subst ex3
    subst er1
    have hfn : fX1_putOffset B n = _ := if_neg c_2
    rw [hfn] at hQ
    exact hQ _ _ _ _ _ rfl hP hD hS dX1_putOffset_24
  · refine lv_ldc (v := (-10000002)) (pc := 10) hx hb hown (hts _ mm_X1_putOffset_1) dX1_putOffset_10 ?_
    subst er1
    have hfn : fX1_putOffset B n = _ := if_pos c_2
    rw [hfn] at hQ
    exact hQ _ _ _ _ _ rfl hP hD hS dX1_putOffset_12

def fX1_putCling (B : Bat) (n : Int32) : Int32 × (Bat) :=
  let r1 : Int32 := fX5_within n 0 500
  if r1 = 0 then
    ((-10000002), B)
  else
    let x3 : Int32 := B.1 5
    (x3, ((upd B.1 5 n), B.2.1, B.2.2.1, B.2.2.2))
abbrev rX1_putCling : Room := { frames := 1, cells := 0, slots := 0, locals := 22 }
theorem mm_X1_putCling_4 : Cond.initialized RX5 ∈ wsX1_putCling := List.mem_of_getElem? (i := 4) rfl
theorem mm_X1_putCling_3 : Cond.static yX5_within ∈ wsX1_putCling := List.mem_of_getElem? (i := 3) rfl
theorem mm_X1_putCling_2 : Cond.fieldLink RX1 38 "GaugeBounds$Battery" "cling" "I" ∈ wsX1_putCling := List.mem_of_getElem? (i := 2) rfl
theorem mm_X1_putCling_1 : Cond.constant RX1 77 (-10000002) ∈ wsX1_putCling := List.mem_of_getElem? (i := 1) rfl
theorem ii_X1_putCling_X1 : ∀ w ∈ wsX10, w ∈ wsX1_putCling := fun _ h => List.mem_cons_of_mem _ (List.mem_append_right _ (h))
theorem qvX1_putCling : yX1_putCling.cls = RX1 ∧ yX1_putCling.cls ≠ "java/lang/invoke/MethodHandle" ∧ yX1_putCling.cls ≠ "java/lang/invoke/VarHandle" ∧ (parseMethodDescriptor yX1_putCling.desc).map (fun d => d.parameters.length) = some 1 := by decide +kernel
set_option maxHeartbeats 4000000 in
set_option maxRecDepth 100000 in
theorem kX1_putCling (l : Launch) (E : gEnv) (a : Nat → Nat) (B : Bat) (n : Int32) : gMi l E yX1_putCling wsX1_putCling rX1_putCling [.ref (a 0), .int n] (wB E a B) (fX1_putCling B n).1 (wB E a ((fX1_putCling B n).2)) := by
  refine gMi_of (cc := cX1_putCling) (maxL := 3) (ret := (some .int)) (by decide) rfl rfl (Nat.le_of_ble_eq_true rfl) ?_
  intro p e s m args below meth c A Q ls hB hQ
  obtain ⟨hx, hb, hml, hown, hts, hK, hP, hD, hA, hS, hl⟩ := hB
  have hown : s.vm.findClass RX1 = some m.cls := hown
  have hP : va_P E.1 vwCl [(a 0, .inr (1, [.ref (a 1), .ref (a 3), .int (B.1 0), .int (B.1 1), .int (B.1 2), .int (B.1 3), .int (B.1 4), .int (B.1 5), .int (B.1 6), .int (B.1 7), .int (B.1 8), .int (B.1 9), .int (B.1 10), .int (B.1 11), .int (B.1 12)])), (a 1, .inr (2, [.ref (a 2)])), (a 2, .inl (eI E, 11, .inl B.2.1)), (a 3, .inr (0, [.ref (a 4), .ref (a 5)])), (a 4, .inl (eJ E, 22, .inr (.inl B.2.2.1))), (a 5, .inl (eI E, 22, .inl B.2.2.2))] s.heap := hP
  have hD : va_D A [(a 0, .inr (1, [.ref (a 1), .ref (a 3), .int (B.1 0), .int (B.1 1), .int (B.1 2), .int (B.1 3), .int (B.1 4), .int (B.1 5), .int (B.1 6), .int (B.1 7), .int (B.1 8), .int (B.1 9), .int (B.1 10), .int (B.1 11), .int (B.1 12)])), (a 1, .inr (2, [.ref (a 2)])), (a 2, .inl (eI E, 11, .inl B.2.1)), (a 3, .inr (0, [.ref (a 4), .ref (a 5)])), (a 4, .inl (eJ E, 22, .inr (.inl B.2.2.1))), (a 5, .inl (eI E, 22, .inl B.2.2.2))] := hD
  have hl : lv_has ls 3 [(0, .ref (a 0)), (1, .int n)] := hl
  refine lv_iload_n (pc := 0) hx hb dX1_putCling_0 rfl (lv_at hl 1 rfl) ?_
  refine lv_iconst (v := 0) (pc := 1) hx hb dX1_putCling_1 rfl ?_
  refine lv_sipush (v := 500) (pc := 2) hx hb dX1_putCling_2 rfl ?_
  obtain ⟨r1, er1⟩ : ∃ z : Int32, fX5_within n 0 500 = z := ⟨_, rfl⟩
  have hr1 := kX5_within l E n 0 500
  rw [er1] at hr1
  refine gcNi (pc := 5) (As := [.int n, .int 0, .int 500]) (rest := []) ⟨hx, hb, hml, hown, hts⟩ hr1 ⟨va_cnB 3 hts ggX1_putCling_X5_within rfl rfl rfl hK.2.2.1 (hts _ mm_X1_putCling_4) qnX5_within ⟨Nat.le_of_ble_eq_true rfl, Nat.le_of_ble_eq_true rfl⟩, hts _ mm_X1_putCling_3, trivial⟩ hK hP hD hS hA rfl hl.1 rfl (Nat.le_of_ble_eq_true rfl) dX1_putCling_5 ⟨Nat.zero_le _, Nat.zero_le _⟩ (fun H locs hP hD hS => ?_)
  refine lv_if_ne (tgt := 14) (pc := 8) hx hb dX1_putCling_8 (by decide) (fun c_2 => ?_) (fun c_2 => ?_)
  · refine lv_aload_n (pc := 14) hx hb dX1_putCling_14 rfl (lv_at hl 0 rfl) ?_
    refine g_get (v := .int (B.1 5)) (pc := 15) hx hb hts ii_X1_putCling_X1 hown hK.1 hP 0 rfl rfl 7 (by decide) ⟨rfl, rfl, rfl⟩ mm_X1_putCling_2 rfl dX1_putCling_15 ?_
    refine g_topi (fun x3 ex3 => ?_)
    refine lv_istore_n (lv' := [(2, .int x3), (0, .ref (a 0)), (1, .int n)]) (pc := 18) hx hb dX1_putCling_18 rfl hl (by decide) rfl (fun ls hl => ?_)
    refine lv_aload_n (pc := 19) hx hb dX1_putCling_19 rfl (lv_at hl 1 rfl) ?_
    refine lv_iload_n (pc := 20) hx hb dX1_putCling_20 rfl (lv_at hl 2 rfl) ?_
    refine g_put (w1 := [(a 0, .inr (1, [.ref (a 1), .ref (a 3), .int (B.1 0), .int (B.1 1), .int (B.1 2), .int (B.1 3), .int (B.1 4), .int n, .int (B.1 6), .int (B.1 7), .int (B.1 8), .int (B.1 9), .int (B.1 10), .int (B.1 11), .int (B.1 12)])), (a 1, .inr (2, [.ref (a 2)])), (a 2, .inl (eI E, 11, .inl B.2.1)), (a 3, .inr (0, [.ref (a 4), .ref (a 5)])), (a 4, .inl (eJ E, 22, .inr (.inl B.2.2.1))), (a 5, .inl (eI E, 22, .inl B.2.2.2))]) (pc := 21) hx hb hts ii_X1_putCling_X1 tyX1 tyX1_ok nmX1 hown hK.1 hP hD hS 0 rfl rfl 7 (by decide) ⟨rfl, rfl, rfl⟩ mm_X1_putCling_2 rfl rfl rfl rfl (Nat.le_of_ble_eq_true rfl) rfl dX1_putCling_21 (fun H locs hP hD hS => ?_)
    refine lv_iload_n (pc := 24) hx hb dX1_putCling_24 rfl (lv_at hl 0 rfl) ?_
    subst ex3
    subst er1
    have hfn : fX1_putCling B n = _ := if_neg c_2
    rw [hfn] at hQ
    exact hQ _ _ _ _ _ rfl hP hD hS dX1_putCling_25
  · refine lv_ldc (v := (-10000002)) (pc := 11) hx hb hown (hts _ mm_X1_putCling_1) dX1_putCling_11 ?_
    subst er1
    have hfn : fX1_putCling B n = _ := if_pos c_2
    rw [hfn] at hQ
    exact hQ _ _ _ _ _ rfl hP hD hS dX1_putCling_13

def fX1_putPoint (B : Bat) (k : Int32) (v : Int32) : Int32 × (Bat) :=
  let r1 : Int32 × (Nat → Int32) := fX2_putPoint B.2.1 k v
  (r1.1, (B.1, r1.2, B.2.2.1, B.2.2.2))
abbrev rX1_putPoint : Room := { frames := 2, cells := 0, slots := 0, locals := 45 }
theorem mm_X1_putPoint_1 : Cond.fieldLink RX1 12 "GaugeBounds$Battery" "curve" "LGaugeBounds$Curve;" ∈ wsX1_putPoint := List.mem_of_getElem? (i := 1) rfl
theorem ii_X1_putPoint_X1 : ∀ w ∈ wsX10, w ∈ wsX1_putPoint := fun _ h => List.mem_cons_of_mem _ (List.mem_append_left _ (List.mem_append_right _ (h)))
theorem qvX1_putPoint : yX1_putPoint.cls = RX1 ∧ yX1_putPoint.cls ≠ "java/lang/invoke/MethodHandle" ∧ yX1_putPoint.cls ≠ "java/lang/invoke/VarHandle" ∧ (parseMethodDescriptor yX1_putPoint.desc).map (fun d => d.parameters.length) = some 2 := by decide +kernel
set_option maxHeartbeats 4000000 in
set_option maxRecDepth 100000 in
theorem kX1_putPoint (l : Launch) (E : gEnv) (a : Nat → Nat) (B : Bat) (k : Int32) (v : Int32) : gMi l E yX1_putPoint wsX1_putPoint rX1_putPoint [.ref (a 0), .int k, .int v] (wB E a B) (fX1_putPoint B k v).1 (wB E a ((fX1_putPoint B k v).2)) := by
  refine gMi_of (cc := cX1_putPoint) (maxL := 3) (ret := (some .int)) (by decide) rfl rfl (Nat.le_of_ble_eq_true rfl) ?_
  intro p e s m args below meth c A Q ls hB hQ
  obtain ⟨hx, hb, hml, hown, hts, hK, hP, hD, hA, hS, hl⟩ := hB
  have hown : s.vm.findClass RX1 = some m.cls := hown
  have hP : va_P E.1 vwCl [(a 0, .inr (1, [.ref (a 1), .ref (a 3), .int (B.1 0), .int (B.1 1), .int (B.1 2), .int (B.1 3), .int (B.1 4), .int (B.1 5), .int (B.1 6), .int (B.1 7), .int (B.1 8), .int (B.1 9), .int (B.1 10), .int (B.1 11), .int (B.1 12)])), (a 1, .inr (2, [.ref (a 2)])), (a 2, .inl (eI E, 11, .inl B.2.1)), (a 3, .inr (0, [.ref (a 4), .ref (a 5)])), (a 4, .inl (eJ E, 22, .inr (.inl B.2.2.1))), (a 5, .inl (eI E, 22, .inl B.2.2.2))] s.heap := hP
  have hD : va_D A [(a 0, .inr (1, [.ref (a 1), .ref (a 3), .int (B.1 0), .int (B.1 1), .int (B.1 2), .int (B.1 3), .int (B.1 4), .int (B.1 5), .int (B.1 6), .int (B.1 7), .int (B.1 8), .int (B.1 9), .int (B.1 10), .int (B.1 11), .int (B.1 12)])), (a 1, .inr (2, [.ref (a 2)])), (a 2, .inl (eI E, 11, .inl B.2.1)), (a 3, .inr (0, [.ref (a 4), .ref (a 5)])), (a 4, .inl (eJ E, 22, .inr (.inl B.2.2.1))), (a 5, .inl (eI E, 22, .inl B.2.2.2))] := hD
  have hl : lv_has ls 3 [(0, .ref (a 0)), (1, .int k), (2, .int v)] := hl
  refine lv_aload_n (pc := 0) hx hb dX1_putPoint_0 rfl (lv_at hl 0 rfl) ?_
  refine g_get (v := .ref (a 1)) (pc := 1) hx hb hts ii_X1_putPoint_X1 hown hK.1 hP 0 rfl rfl 0 (by decide) ⟨rfl, rfl, rfl⟩ mm_X1_putPoint_1 rfl dX1_putPoint_1 ?_
  refine lv_iload_n (pc := 4) hx hb dX1_putPoint_4 rfl (lv_at hl 1 rfl) ?_
  refine lv_iload_n (pc := 5) hx hb dX1_putPoint_5 rfl (lv_at hl 2 rfl) ?_
  obtain ⟨r1, er1⟩ : ∃ z : Int32 × (Nat → Int32), fX2_putPoint B.2.1 k v = z := ⟨_, rfl⟩
  have hr1 := kX2_putPoint l E (a 1) (a 2) B.2.1 k v
  rw [er1] at hr1
  refine gcVi (pc := 6) (w1 := [(a 0, .inr (1, [.ref (a 1), .ref (a 3), .int (B.1 0), .int (B.1 1), .int (B.1 2), .int (B.1 3), .int (B.1 4), .int (B.1 5), .int (B.1 6), .int (B.1 7), .int (B.1 8), .int (B.1 9), .int (B.1 10), .int (B.1 11), .int (B.1 12)])), (a 1, .inr (2, [.ref (a 2)])), (a 2, .inl (eI E, 11, .inl r1.2)), (a 3, .inr (0, [.ref (a 4), .ref (a 5)])), (a 4, .inl (eJ E, 22, .inr (.inl B.2.2.1))), (a 5, .inl (eI E, 22, .inl B.2.2.2))]) (pre := [(a 0, .inr (1, [.ref (a 1), .ref (a 3), .int (B.1 0), .int (B.1 1), .int (B.1 2), .int (B.1 3), .int (B.1 4), .int (B.1 5), .int (B.1 6), .int (B.1 7), .int (B.1 8), .int (B.1 9), .int (B.1 10), .int (B.1 11), .int (B.1 12)]))]) (post := [(a 3, .inr (0, [.ref (a 4), .ref (a 5)])), (a 4, .inl (eJ E, 22, .inr (.inl B.2.2.1))), (a 5, .inl (eI E, 22, .inl B.2.2.2))]) (As := [.int k, .int v]) (rest := []) (q0 := 0) ⟨hx, hb, hml, hown, hts⟩ hr1 (cwV 2 hts gX1_putPoint_X2_putPoint rfl rfl rfl qvX2_putPoint ⟨Nat.le_of_ble_eq_true rfl, Nat.le_of_ble_eq_true rfl⟩) hK hP hD hS hA rfl rfl rfl rfl rfl hl.1 rfl (Nat.le_of_ble_eq_true rfl) dX1_putPoint_6 ⟨Nat.zero_le _, Nat.zero_le _⟩ (fun H locs hP hD hS => ?_)
  subst er1
  exact hQ _ _ _ _ _ rfl hP hD hS dX1_putPoint_9

def fX1_hold (B : Bat) (lo : Int32) (hi : Int32) : Int32 × (Bat) :=
  let r1 : Int32 := fX1_isRange lo hi
  if r1 = 0 then
    ((-10000002), B)
  else
    if hi ≤ (B.1 3) then
      let x4 : Int32 := B.1 1
      (x4, ((upd (upd B.1 0 lo) 1 hi), B.2.1, B.2.2.1, B.2.2.2))
    else
      ((-10000002), B)
abbrev rX1_hold : Room := { frames := 2, cells := 0, slots := 0, locals := 43 }
theorem mm_X1_hold_2 : Cond.constant RX1 77 (-10000002) ∈ wsX1_hold := List.mem_of_getElem? (i := 2) rfl
theorem mm_X1_hold_1 : Cond.fieldLink RX1 32 "GaugeBounds$Battery" "mostCapacity" "I" ∈ wsX1_hold := List.mem_of_getElem? (i := 1) rfl
theorem mm_X1_hold_3 : Cond.fieldLink RX1 25 "GaugeBounds$Battery" "high" "I" ∈ wsX1_hold := List.mem_of_getElem? (i := 3) rfl
theorem mm_X1_hold_4 : Cond.fieldLink RX1 58 "GaugeBounds$Battery" "low" "I" ∈ wsX1_hold := List.mem_of_getElem? (i := 4) rfl
theorem ii_X1_hold_X1 : ∀ w ∈ wsX10, w ∈ wsX1_hold := fun _ h => List.mem_cons_of_mem _ (List.mem_append_right _ (h))
theorem qvX1_hold : yX1_hold.cls = RX1 ∧ yX1_hold.cls ≠ "java/lang/invoke/MethodHandle" ∧ yX1_hold.cls ≠ "java/lang/invoke/VarHandle" ∧ (parseMethodDescriptor yX1_hold.desc).map (fun d => d.parameters.length) = some 2 := by decide +kernel
set_option maxHeartbeats 4000000 in
set_option maxRecDepth 100000 in
theorem kX1_hold (l : Launch) (E : gEnv) (a : Nat → Nat) (B : Bat) (lo : Int32) (hi : Int32) : gMi l E yX1_hold wsX1_hold rX1_hold [.ref (a 0), .int lo, .int hi] (wB E a B) (fX1_hold B lo hi).1 (wB E a ((fX1_hold B lo hi).2)) := by
  refine gMi_of (cc := cX1_hold) (maxL := 4) (ret := (some .int)) (by decide) rfl rfl (Nat.le_of_ble_eq_true rfl) ?_
  intro p e s m args below meth c A Q ls hB hQ
  obtain ⟨hx, hb, hml, hown, hts, hK, hP, hD, hA, hS, hl⟩ := hB
  have hown : s.vm.findClass RX1 = some m.cls := hown
  have hP : va_P E.1 vwCl [(a 0, .inr (1, [.ref (a 1), .ref (a 3), .int (B.1 0), .int (B.1 1), .int (B.1 2), .int (B.1 3), .int (B.1 4), .int (B.1 5), .int (B.1 6), .int (B.1 7), .int (B.1 8), .int (B.1 9), .int (B.1 10), .int (B.1 11), .int (B.1 12)])), (a 1, .inr (2, [.ref (a 2)])), (a 2, .inl (eI E, 11, .inl B.2.1)), (a 3, .inr (0, [.ref (a 4), .ref (a 5)])), (a 4, .inl (eJ E, 22, .inr (.inl B.2.2.1))), (a 5, .inl (eI E, 22, .inl B.2.2.2))] s.heap := hP
  have hD : va_D A [(a 0, .inr (1, [.ref (a 1), .ref (a 3), .int (B.1 0), .int (B.1 1), .int (B.1 2), .int (B.1 3), .int (B.1 4), .int (B.1 5), .int (B.1 6), .int (B.1 7), .int (B.1 8), .int (B.1 9), .int (B.1 10), .int (B.1 11), .int (B.1 12)])), (a 1, .inr (2, [.ref (a 2)])), (a 2, .inl (eI E, 11, .inl B.2.1)), (a 3, .inr (0, [.ref (a 4), .ref (a 5)])), (a 4, .inl (eJ E, 22, .inr (.inl B.2.2.1))), (a 5, .inl (eI E, 22, .inl B.2.2.2))] := hD
  have hl : lv_has ls 4 [(0, .ref (a 0)), (1, .int lo), (2, .int hi)] := hl
  refine lv_iload_n (pc := 0) hx hb dX1_hold_0 rfl (lv_at hl 1 rfl) ?_
  refine lv_iload_n (pc := 1) hx hb dX1_hold_1 rfl (lv_at hl 2 rfl) ?_
  obtain ⟨r1, er1⟩ : ∃ z : Int32, fX1_isRange lo hi = z := ⟨_, rfl⟩
  have hr1 := kX1_isRange l E lo hi
  rw [er1] at hr1
  refine gcSi (pc := 2) (As := [.int lo, .int hi]) (rest := []) ⟨hx, hb, hml, hown, hts⟩ hr1 (cwS 2 hts gX1_hold_X1_isRange rfl rfl rfl qsX1_isRange ⟨Nat.le_of_ble_eq_true rfl, Nat.le_of_ble_eq_true rfl⟩) hK hP hD hS hA rfl hl.1 rfl (Nat.le_of_ble_eq_true rfl) dX1_hold_2 ⟨Nat.zero_le _, Nat.zero_le _⟩ (fun H locs hP hD hS => ?_)
  refine lv_if_eq (tgt := 16) (pc := 5) hx hb dX1_hold_5 (by decide) (fun c_2 => ?_) (fun c_2 => ?_)
  · refine lv_ldc (v := (-10000002)) (pc := 16) hx hb hown (hts _ mm_X1_hold_2) dX1_hold_16 ?_
    subst er1
    have hfn : fX1_hold B lo hi = _ := if_pos c_2
    rw [hfn] at hQ
    exact hQ _ _ _ _ _ rfl hP hD hS dX1_hold_18
  · refine lv_iload_n (pc := 8) hx hb dX1_hold_8 rfl (lv_at hl 2 rfl) ?_
    refine lv_aload_n (pc := 9) hx hb dX1_hold_9 rfl (lv_at hl 0 rfl) ?_
    refine g_get (v := .int (B.1 3)) (pc := 10) hx hb hts ii_X1_hold_X1 hown hK.1 hP 0 rfl rfl 5 (by decide) ⟨rfl, rfl, rfl⟩ mm_X1_hold_1 rfl dX1_hold_10 ?_
    refine lv_icmp_le (tgt := 19) (pc := 13) hx hb dX1_hold_13 (by decide) (fun c_3 => ?_) (fun c_3 => ?_)
    · refine lv_aload_n (pc := 19) hx hb dX1_hold_19 rfl (lv_at hl 0 rfl) ?_
      refine g_get (v := .int (B.1 1)) (pc := 20) hx hb hts ii_X1_hold_X1 hown hK.1 hP 0 rfl rfl 3 (by decide) ⟨rfl, rfl, rfl⟩ mm_X1_hold_3 rfl dX1_hold_20 ?_
      refine g_topi (fun x4 ex4 => ?_)
      refine lv_istore_n (lv' := [(3, .int x4), (0, .ref (a 0)), (1, .int lo), (2, .int hi)]) (pc := 23) hx hb dX1_hold_23 rfl hl (by decide) rfl (fun ls hl => ?_)
      refine lv_aload_n (pc := 24) hx hb dX1_hold_24 rfl (lv_at hl 1 rfl) ?_
      refine lv_iload_n (pc := 25) hx hb dX1_hold_25 rfl (lv_at hl 2 rfl) ?_
      refine g_put (w1 := [(a 0, .inr (1, [.ref (a 1), .ref (a 3), .int lo, .int (B.1 1), .int (B.1 2), .int (B.1 3), .int (B.1 4), .int (B.1 5), .int (B.1 6), .int (B.1 7), .int (B.1 8), .int (B.1 9), .int (B.1 10), .int (B.1 11), .int (B.1 12)])), (a 1, .inr (2, [.ref (a 2)])), (a 2, .inl (eI E, 11, .inl B.2.1)), (a 3, .inr (0, [.ref (a 4), .ref (a 5)])), (a 4, .inl (eJ E, 22, .inr (.inl B.2.2.1))), (a 5, .inl (eI E, 22, .inl B.2.2.2))]) (pc := 26) hx hb hts ii_X1_hold_X1 tyX1 tyX1_ok nmX1 hown hK.1 hP hD hS 0 rfl rfl 2 (by decide) ⟨rfl, rfl, rfl⟩ mm_X1_hold_4 rfl rfl rfl rfl (Nat.le_of_ble_eq_true rfl) rfl dX1_hold_26 (fun H locs hP hD hS => ?_)
      refine lv_aload_n (pc := 29) hx hb dX1_hold_29 rfl (lv_at hl 1 rfl) ?_
      refine lv_iload_n (pc := 30) hx hb dX1_hold_30 rfl (lv_at hl 3 rfl) ?_
      refine g_put (w1 := [(a 0, .inr (1, [.ref (a 1), .ref (a 3), .int lo, .int hi, .int (B.1 2), .int (B.1 3), .int (B.1 4), .int (B.1 5), .int (B.1 6), .int (B.1 7), .int (B.1 8), .int (B.1 9), .int (B.1 10), .int (B.1 11), .int (B.1 12)])), (a 1, .inr (2, [.ref (a 2)])), (a 2, .inl (eI E, 11, .inl B.2.1)), (a 3, .inr (0, [.ref (a 4), .ref (a 5)])), (a 4, .inl (eJ E, 22, .inr (.inl B.2.2.1))), (a 5, .inl (eI E, 22, .inl B.2.2.2))]) (pc := 31) hx hb hts ii_X1_hold_X1 tyX1 tyX1_ok nmX1 hown hK.1 hP hD hS 0 rfl rfl 3 (by decide) ⟨rfl, rfl, rfl⟩ mm_X1_hold_3 rfl rfl rfl rfl (Nat.le_of_ble_eq_true rfl) rfl dX1_hold_31 (fun H locs hP hD hS => ?_)
      refine lv_iload_n (pc := 34) hx hb dX1_hold_34 rfl (lv_at hl 0 rfl) ?_
      subst ex4
      subst er1
      have hfn : fX1_hold B lo hi = _ := (if_neg c_2).trans (if_pos c_3)
      rw [hfn] at hQ
      exact hQ _ _ _ _ _ rfl hP hD hS dX1_hold_35
    · refine lv_ldc (v := (-10000002)) (pc := 16) hx hb hown (hts _ mm_X1_hold_2) dX1_hold_16 ?_
      subst er1
      have hfn : fX1_hold B lo hi = _ := (if_neg c_2).trans (if_neg c_3)
      rw [hfn] at hQ
      exact hQ _ _ _ _ _ rfl hP hD hS dX1_hold_18

def fX1_begin (B : Bat) (lo : Int32) (hi : Int32) : Int32 × (Bat) :=
  let r1 : Int32 := fX1_isRange lo hi
  if r1 = 0 then
    ((-10000002), B)
  else
    let x3 : Int32 := B.1 2
    let r4 : (Nat → Int64) × (Nat → Int32) := fX0_forget B.2.2.1 B.2.2.2
    (x3, ((upd (upd (upd (upd (upd (upd (upd (upd (upd (upd (upd B.1 2 lo) 3 hi) 0 0) 1 hi) 6 0) 7 0) 8 0) 9 (-10000001)) 10 (-10000001)) 11 0) 12 100), B.2.1, r4.1, r4.2))
abbrev rX1_begin : Room := { frames := 2, cells := 0, slots := 0, locals := 43 }
theorem mm_X1_begin_2 : Cond.fieldLink RX1 29 "GaugeBounds$Battery" "leastCapacity" "I" ∈ wsX1_begin := List.mem_of_getElem? (i := 2) rfl
theorem mm_X1_begin_3 : Cond.fieldLink RX1 32 "GaugeBounds$Battery" "mostCapacity" "I" ∈ wsX1_begin := List.mem_of_getElem? (i := 3) rfl
theorem mm_X1_begin_4 : Cond.fieldLink RX1 58 "GaugeBounds$Battery" "low" "I" ∈ wsX1_begin := List.mem_of_getElem? (i := 4) rfl
theorem mm_X1_begin_5 : Cond.fieldLink RX1 25 "GaugeBounds$Battery" "high" "I" ∈ wsX1_begin := List.mem_of_getElem? (i := 5) rfl
theorem mm_X1_begin_6 : Cond.fieldLink RX1 61 "GaugeBounds$Battery" "drawn" "I" ∈ wsX1_begin := List.mem_of_getElem? (i := 6) rfl
theorem mm_X1_begin_7 : Cond.fieldLink RX1 64 "GaugeBounds$Battery" "steps" "I" ∈ wsX1_begin := List.mem_of_getElem? (i := 7) rfl
theorem mm_X1_begin_8 : Cond.fieldLink RX1 67 "GaugeBounds$Battery" "rests" "I" ∈ wsX1_begin := List.mem_of_getElem? (i := 8) rfl
theorem mm_X1_begin_9 : Cond.constant RX1 41 (-10000001) ∈ wsX1_begin := List.mem_of_getElem? (i := 9) rfl
theorem mm_X1_begin_10 : Cond.fieldLink RX1 42 "GaugeBounds$Battery" "lastA" "I" ∈ wsX1_begin := List.mem_of_getElem? (i := 10) rfl
theorem mm_X1_begin_11 : Cond.fieldLink RX1 45 "GaugeBounds$Battery" "lastB" "I" ∈ wsX1_begin := List.mem_of_getElem? (i := 11) rfl
theorem mm_X1_begin_12 : Cond.fieldLink RX1 70 "GaugeBounds$Battery" "clashes" "I" ∈ wsX1_begin := List.mem_of_getElem? (i := 12) rfl
theorem mm_X1_begin_13 : Cond.fieldLink RX1 48 "GaugeBounds$Battery" "shown" "I" ∈ wsX1_begin := List.mem_of_getElem? (i := 13) rfl
theorem mm_X1_begin_14 : Cond.fieldLink RX1 21 "GaugeBounds$Battery" "bands" "LGaugeBounds$Bands;" ∈ wsX1_begin := List.mem_of_getElem? (i := 14) rfl
theorem mm_X1_begin_1 : Cond.constant RX1 77 (-10000002) ∈ wsX1_begin := List.mem_of_getElem? (i := 1) rfl
theorem ii_X1_begin_X1 : ∀ w ∈ wsX10, w ∈ wsX1_begin := fun _ h => List.mem_cons_of_mem _ (List.mem_append_left _ (List.mem_append_right _ (h)))
theorem qvX1_begin : yX1_begin.cls = RX1 ∧ yX1_begin.cls ≠ "java/lang/invoke/MethodHandle" ∧ yX1_begin.cls ≠ "java/lang/invoke/VarHandle" ∧ (parseMethodDescriptor yX1_begin.desc).map (fun d => d.parameters.length) = some 2 := by decide +kernel
set_option maxHeartbeats 4000000 in
set_option maxRecDepth 100000 in
theorem kX1_begin (l : Launch) (E : gEnv) (a : Nat → Nat) (B : Bat) (lo : Int32) (hi : Int32) : gMi l E yX1_begin wsX1_begin rX1_begin [.ref (a 0), .int lo, .int hi] (wB E a B) (fX1_begin B lo hi).1 (wB E a ((fX1_begin B lo hi).2)) := by
  refine gMi_of (cc := cX1_begin) (maxL := 4) (ret := (some .int)) (by decide) rfl rfl (Nat.le_of_ble_eq_true rfl) ?_
  intro p e s m args below meth c A Q ls hB hQ
  obtain ⟨hx, hb, hml, hown, hts, hK, hP, hD, hA, hS, hl⟩ := hB
  have hown : s.vm.findClass RX1 = some m.cls := hown
  have hP : va_P E.1 vwCl [(a 0, .inr (1, [.ref (a 1), .ref (a 3), .int (B.1 0), .int (B.1 1), .int (B.1 2), .int (B.1 3), .int (B.1 4), .int (B.1 5), .int (B.1 6), .int (B.1 7), .int (B.1 8), .int (B.1 9), .int (B.1 10), .int (B.1 11), .int (B.1 12)])), (a 1, .inr (2, [.ref (a 2)])), (a 2, .inl (eI E, 11, .inl B.2.1)), (a 3, .inr (0, [.ref (a 4), .ref (a 5)])), (a 4, .inl (eJ E, 22, .inr (.inl B.2.2.1))), (a 5, .inl (eI E, 22, .inl B.2.2.2))] s.heap := hP
  have hD : va_D A [(a 0, .inr (1, [.ref (a 1), .ref (a 3), .int (B.1 0), .int (B.1 1), .int (B.1 2), .int (B.1 3), .int (B.1 4), .int (B.1 5), .int (B.1 6), .int (B.1 7), .int (B.1 8), .int (B.1 9), .int (B.1 10), .int (B.1 11), .int (B.1 12)])), (a 1, .inr (2, [.ref (a 2)])), (a 2, .inl (eI E, 11, .inl B.2.1)), (a 3, .inr (0, [.ref (a 4), .ref (a 5)])), (a 4, .inl (eJ E, 22, .inr (.inl B.2.2.1))), (a 5, .inl (eI E, 22, .inl B.2.2.2))] := hD
  have hl : lv_has ls 4 [(0, .ref (a 0)), (1, .int lo), (2, .int hi)] := hl
  refine lv_iload_n (pc := 0) hx hb dX1_begin_0 rfl (lv_at hl 1 rfl) ?_
  refine lv_iload_n (pc := 1) hx hb dX1_begin_1 rfl (lv_at hl 2 rfl) ?_
  obtain ⟨r1, er1⟩ : ∃ z : Int32, fX1_isRange lo hi = z := ⟨_, rfl⟩
  have hr1 := kX1_isRange l E lo hi
  rw [er1] at hr1
  refine gcSi (pc := 2) (As := [.int lo, .int hi]) (rest := []) ⟨hx, hb, hml, hown, hts⟩ hr1 (cwS 2 hts gX1_begin_X1_isRange rfl rfl rfl qsX1_isRange ⟨Nat.le_of_ble_eq_true rfl, Nat.le_of_ble_eq_true rfl⟩) hK hP hD hS hA rfl hl.1 rfl (Nat.le_of_ble_eq_true rfl) dX1_begin_2 ⟨Nat.zero_le _, Nat.zero_le _⟩ (fun H locs hP hD hS => ?_)
  refine lv_if_ne (tgt := 11) (pc := 5) hx hb dX1_begin_5 (by decide) (fun c_2 => ?_) (fun c_2 => ?_)
  · refine lv_aload_n (pc := 11) hx hb dX1_begin_11 rfl (lv_at hl 0 rfl) ?_
    refine g_get (v := .int (B.1 2)) (pc := 12) hx hb hts ii_X1_begin_X1 hown hK.1 hP 0 rfl rfl 4 (by decide) ⟨rfl, rfl, rfl⟩ mm_X1_begin_2 rfl dX1_begin_12 ?_
    refine g_topi (fun x3 ex3 => ?_)
    refine lv_istore_n (lv' := [(3, .int x3), (0, .ref (a 0)), (1, .int lo), (2, .int hi)]) (pc := 15) hx hb dX1_begin_15 rfl hl (by decide) rfl (fun ls hl => ?_)
    refine lv_aload_n (pc := 16) hx hb dX1_begin_16 rfl (lv_at hl 1 rfl) ?_
    refine lv_iload_n (pc := 17) hx hb dX1_begin_17 rfl (lv_at hl 2 rfl) ?_
    refine g_put (w1 := [(a 0, .inr (1, [.ref (a 1), .ref (a 3), .int (B.1 0), .int (B.1 1), .int lo, .int (B.1 3), .int (B.1 4), .int (B.1 5), .int (B.1 6), .int (B.1 7), .int (B.1 8), .int (B.1 9), .int (B.1 10), .int (B.1 11), .int (B.1 12)])), (a 1, .inr (2, [.ref (a 2)])), (a 2, .inl (eI E, 11, .inl B.2.1)), (a 3, .inr (0, [.ref (a 4), .ref (a 5)])), (a 4, .inl (eJ E, 22, .inr (.inl B.2.2.1))), (a 5, .inl (eI E, 22, .inl B.2.2.2))]) (pc := 18) hx hb hts ii_X1_begin_X1 tyX1 tyX1_ok nmX1 hown hK.1 hP hD hS 0 rfl rfl 4 (by decide) ⟨rfl, rfl, rfl⟩ mm_X1_begin_2 rfl rfl rfl rfl (Nat.le_of_ble_eq_true rfl) rfl dX1_begin_18 (fun H locs hP hD hS => ?_)
    refine lv_aload_n (pc := 21) hx hb dX1_begin_21 rfl (lv_at hl 1 rfl) ?_
    refine lv_iload_n (pc := 22) hx hb dX1_begin_22 rfl (lv_at hl 3 rfl) ?_
    refine g_put (w1 := [(a 0, .inr (1, [.ref (a 1), .ref (a 3), .int (B.1 0), .int (B.1 1), .int lo, .int hi, .int (B.1 4), .int (B.1 5), .int (B.1 6), .int (B.1 7), .int (B.1 8), .int (B.1 9), .int (B.1 10), .int (B.1 11), .int (B.1 12)])), (a 1, .inr (2, [.ref (a 2)])), (a 2, .inl (eI E, 11, .inl B.2.1)), (a 3, .inr (0, [.ref (a 4), .ref (a 5)])), (a 4, .inl (eJ E, 22, .inr (.inl B.2.2.1))), (a 5, .inl (eI E, 22, .inl B.2.2.2))]) (pc := 23) hx hb hts ii_X1_begin_X1 tyX1 tyX1_ok nmX1 hown hK.1 hP hD hS 0 rfl rfl 5 (by decide) ⟨rfl, rfl, rfl⟩ mm_X1_begin_3 rfl rfl rfl rfl (Nat.le_of_ble_eq_true rfl) rfl dX1_begin_23 (fun H locs hP hD hS => ?_)
    refine lv_aload_n (pc := 26) hx hb dX1_begin_26 rfl (lv_at hl 1 rfl) ?_
    refine lv_iconst (v := 0) (pc := 27) hx hb dX1_begin_27 rfl ?_
    refine g_put (w1 := [(a 0, .inr (1, [.ref (a 1), .ref (a 3), .int 0, .int (B.1 1), .int lo, .int hi, .int (B.1 4), .int (B.1 5), .int (B.1 6), .int (B.1 7), .int (B.1 8), .int (B.1 9), .int (B.1 10), .int (B.1 11), .int (B.1 12)])), (a 1, .inr (2, [.ref (a 2)])), (a 2, .inl (eI E, 11, .inl B.2.1)), (a 3, .inr (0, [.ref (a 4), .ref (a 5)])), (a 4, .inl (eJ E, 22, .inr (.inl B.2.2.1))), (a 5, .inl (eI E, 22, .inl B.2.2.2))]) (pc := 28) hx hb hts ii_X1_begin_X1 tyX1 tyX1_ok nmX1 hown hK.1 hP hD hS 0 rfl rfl 2 (by decide) ⟨rfl, rfl, rfl⟩ mm_X1_begin_4 rfl rfl rfl rfl (Nat.le_of_ble_eq_true rfl) rfl dX1_begin_28 (fun H locs hP hD hS => ?_)
    refine lv_aload_n (pc := 31) hx hb dX1_begin_31 rfl (lv_at hl 1 rfl) ?_
    refine lv_iload_n (pc := 32) hx hb dX1_begin_32 rfl (lv_at hl 3 rfl) ?_
    refine g_put (w1 := [(a 0, .inr (1, [.ref (a 1), .ref (a 3), .int 0, .int hi, .int lo, .int hi, .int (B.1 4), .int (B.1 5), .int (B.1 6), .int (B.1 7), .int (B.1 8), .int (B.1 9), .int (B.1 10), .int (B.1 11), .int (B.1 12)])), (a 1, .inr (2, [.ref (a 2)])), (a 2, .inl (eI E, 11, .inl B.2.1)), (a 3, .inr (0, [.ref (a 4), .ref (a 5)])), (a 4, .inl (eJ E, 22, .inr (.inl B.2.2.1))), (a 5, .inl (eI E, 22, .inl B.2.2.2))]) (pc := 33) hx hb hts ii_X1_begin_X1 tyX1 tyX1_ok nmX1 hown hK.1 hP hD hS 0 rfl rfl 3 (by decide) ⟨rfl, rfl, rfl⟩ mm_X1_begin_5 rfl rfl rfl rfl (Nat.le_of_ble_eq_true rfl) rfl dX1_begin_33 (fun H locs hP hD hS => ?_)
    refine lv_aload_n (pc := 36) hx hb dX1_begin_36 rfl (lv_at hl 1 rfl) ?_
    refine lv_iconst (v := 0) (pc := 37) hx hb dX1_begin_37 rfl ?_
    refine g_put (w1 := [(a 0, .inr (1, [.ref (a 1), .ref (a 3), .int 0, .int hi, .int lo, .int hi, .int (B.1 4), .int (B.1 5), .int 0, .int (B.1 7), .int (B.1 8), .int (B.1 9), .int (B.1 10), .int (B.1 11), .int (B.1 12)])), (a 1, .inr (2, [.ref (a 2)])), (a 2, .inl (eI E, 11, .inl B.2.1)), (a 3, .inr (0, [.ref (a 4), .ref (a 5)])), (a 4, .inl (eJ E, 22, .inr (.inl B.2.2.1))), (a 5, .inl (eI E, 22, .inl B.2.2.2))]) (pc := 38) hx hb hts ii_X1_begin_X1 tyX1 tyX1_ok nmX1 hown hK.1 hP hD hS 0 rfl rfl 8 (by decide) ⟨rfl, rfl, rfl⟩ mm_X1_begin_6 rfl rfl rfl rfl (Nat.le_of_ble_eq_true rfl) rfl dX1_begin_38 (fun H locs hP hD hS => ?_)
    refine lv_aload_n (pc := 41) hx hb dX1_begin_41 rfl (lv_at hl 1 rfl) ?_
    refine lv_iconst (v := 0) (pc := 42) hx hb dX1_begin_42 rfl ?_
    refine g_put (w1 := [(a 0, .inr (1, [.ref (a 1), .ref (a 3), .int 0, .int hi, .int lo, .int hi, .int (B.1 4), .int (B.1 5), .int 0, .int 0, .int (B.1 8), .int (B.1 9), .int (B.1 10), .int (B.1 11), .int (B.1 12)])), (a 1, .inr (2, [.ref (a 2)])), (a 2, .inl (eI E, 11, .inl B.2.1)), (a 3, .inr (0, [.ref (a 4), .ref (a 5)])), (a 4, .inl (eJ E, 22, .inr (.inl B.2.2.1))), (a 5, .inl (eI E, 22, .inl B.2.2.2))]) (pc := 43) hx hb hts ii_X1_begin_X1 tyX1 tyX1_ok nmX1 hown hK.1 hP hD hS 0 rfl rfl 9 (by decide) ⟨rfl, rfl, rfl⟩ mm_X1_begin_7 rfl rfl rfl rfl (Nat.le_of_ble_eq_true rfl) rfl dX1_begin_43 (fun H locs hP hD hS => ?_)
    refine lv_aload_n (pc := 46) hx hb dX1_begin_46 rfl (lv_at hl 1 rfl) ?_
    refine lv_iconst (v := 0) (pc := 47) hx hb dX1_begin_47 rfl ?_
    refine g_put (w1 := [(a 0, .inr (1, [.ref (a 1), .ref (a 3), .int 0, .int hi, .int lo, .int hi, .int (B.1 4), .int (B.1 5), .int 0, .int 0, .int 0, .int (B.1 9), .int (B.1 10), .int (B.1 11), .int (B.1 12)])), (a 1, .inr (2, [.ref (a 2)])), (a 2, .inl (eI E, 11, .inl B.2.1)), (a 3, .inr (0, [.ref (a 4), .ref (a 5)])), (a 4, .inl (eJ E, 22, .inr (.inl B.2.2.1))), (a 5, .inl (eI E, 22, .inl B.2.2.2))]) (pc := 48) hx hb hts ii_X1_begin_X1 tyX1 tyX1_ok nmX1 hown hK.1 hP hD hS 0 rfl rfl 10 (by decide) ⟨rfl, rfl, rfl⟩ mm_X1_begin_8 rfl rfl rfl rfl (Nat.le_of_ble_eq_true rfl) rfl dX1_begin_48 (fun H locs hP hD hS => ?_)
    refine lv_aload_n (pc := 51) hx hb dX1_begin_51 rfl (lv_at hl 1 rfl) ?_
    refine lv_ldc (v := (-10000001)) (pc := 52) hx hb hown (hts _ mm_X1_begin_9) dX1_begin_52 ?_
    refine g_put (w1 := [(a 0, .inr (1, [.ref (a 1), .ref (a 3), .int 0, .int hi, .int lo, .int hi, .int (B.1 4), .int (B.1 5), .int 0, .int 0, .int 0, .int (-10000001), .int (B.1 10), .int (B.1 11), .int (B.1 12)])), (a 1, .inr (2, [.ref (a 2)])), (a 2, .inl (eI E, 11, .inl B.2.1)), (a 3, .inr (0, [.ref (a 4), .ref (a 5)])), (a 4, .inl (eJ E, 22, .inr (.inl B.2.2.1))), (a 5, .inl (eI E, 22, .inl B.2.2.2))]) (pc := 54) hx hb hts ii_X1_begin_X1 tyX1 tyX1_ok nmX1 hown hK.1 hP hD hS 0 rfl rfl 11 (by decide) ⟨rfl, rfl, rfl⟩ mm_X1_begin_10 rfl rfl rfl rfl (Nat.le_of_ble_eq_true rfl) rfl dX1_begin_54 (fun H locs hP hD hS => ?_)
    refine lv_aload_n (pc := 57) hx hb dX1_begin_57 rfl (lv_at hl 1 rfl) ?_
    refine lv_ldc (v := (-10000001)) (pc := 58) hx hb hown (hts _ mm_X1_begin_9) dX1_begin_58 ?_
    refine g_put (w1 := [(a 0, .inr (1, [.ref (a 1), .ref (a 3), .int 0, .int hi, .int lo, .int hi, .int (B.1 4), .int (B.1 5), .int 0, .int 0, .int 0, .int (-10000001), .int (-10000001), .int (B.1 11), .int (B.1 12)])), (a 1, .inr (2, [.ref (a 2)])), (a 2, .inl (eI E, 11, .inl B.2.1)), (a 3, .inr (0, [.ref (a 4), .ref (a 5)])), (a 4, .inl (eJ E, 22, .inr (.inl B.2.2.1))), (a 5, .inl (eI E, 22, .inl B.2.2.2))]) (pc := 60) hx hb hts ii_X1_begin_X1 tyX1 tyX1_ok nmX1 hown hK.1 hP hD hS 0 rfl rfl 12 (by decide) ⟨rfl, rfl, rfl⟩ mm_X1_begin_11 rfl rfl rfl rfl (Nat.le_of_ble_eq_true rfl) rfl dX1_begin_60 (fun H locs hP hD hS => ?_)
    refine lv_aload_n (pc := 63) hx hb dX1_begin_63 rfl (lv_at hl 1 rfl) ?_
    refine lv_iconst (v := 0) (pc := 64) hx hb dX1_begin_64 rfl ?_
    refine g_put (w1 := [(a 0, .inr (1, [.ref (a 1), .ref (a 3), .int 0, .int hi, .int lo, .int hi, .int (B.1 4), .int (B.1 5), .int 0, .int 0, .int 0, .int (-10000001), .int (-10000001), .int 0, .int (B.1 12)])), (a 1, .inr (2, [.ref (a 2)])), (a 2, .inl (eI E, 11, .inl B.2.1)), (a 3, .inr (0, [.ref (a 4), .ref (a 5)])), (a 4, .inl (eJ E, 22, .inr (.inl B.2.2.1))), (a 5, .inl (eI E, 22, .inl B.2.2.2))]) (pc := 65) hx hb hts ii_X1_begin_X1 tyX1 tyX1_ok nmX1 hown hK.1 hP hD hS 0 rfl rfl 13 (by decide) ⟨rfl, rfl, rfl⟩ mm_X1_begin_12 rfl rfl rfl rfl (Nat.le_of_ble_eq_true rfl) rfl dX1_begin_65 (fun H locs hP hD hS => ?_)
    refine lv_aload_n (pc := 68) hx hb dX1_begin_68 rfl (lv_at hl 1 rfl) ?_
    refine lv_bipush (v := 100) (pc := 69) hx hb dX1_begin_69 rfl ?_
    refine g_put (w1 := [(a 0, .inr (1, [.ref (a 1), .ref (a 3), .int 0, .int hi, .int lo, .int hi, .int (B.1 4), .int (B.1 5), .int 0, .int 0, .int 0, .int (-10000001), .int (-10000001), .int 0, .int 100])), (a 1, .inr (2, [.ref (a 2)])), (a 2, .inl (eI E, 11, .inl B.2.1)), (a 3, .inr (0, [.ref (a 4), .ref (a 5)])), (a 4, .inl (eJ E, 22, .inr (.inl B.2.2.1))), (a 5, .inl (eI E, 22, .inl B.2.2.2))]) (pc := 71) hx hb hts ii_X1_begin_X1 tyX1 tyX1_ok nmX1 hown hK.1 hP hD hS 0 rfl rfl 14 (by decide) ⟨rfl, rfl, rfl⟩ mm_X1_begin_13 rfl rfl rfl rfl (Nat.le_of_ble_eq_true rfl) rfl dX1_begin_71 (fun H locs hP hD hS => ?_)
    refine lv_aload_n (pc := 74) hx hb dX1_begin_74 rfl (lv_at hl 1 rfl) ?_
    refine g_get (v := .ref (a 3)) (pc := 75) hx hb hts ii_X1_begin_X1 hown hK.1 hP 0 rfl rfl 1 (by decide) ⟨rfl, rfl, rfl⟩ mm_X1_begin_14 rfl dX1_begin_75 ?_
    obtain ⟨r4, er4⟩ : ∃ z : (Nat → Int64) × (Nat → Int32), fX0_forget B.2.2.1 B.2.2.2 = z := ⟨_, rfl⟩
    have hr4 := kX0_forget l E (a 3) (a 4) (a 5) B.2.2.1 B.2.2.2
    rw [er4] at hr4
    refine gcVv (pc := 78) (w1 := [(a 0, .inr (1, [.ref (a 1), .ref (a 3), .int 0, .int hi, .int lo, .int hi, .int (B.1 4), .int (B.1 5), .int 0, .int 0, .int 0, .int (-10000001), .int (-10000001), .int 0, .int 100])), (a 1, .inr (2, [.ref (a 2)])), (a 2, .inl (eI E, 11, .inl B.2.1)), (a 3, .inr (0, [.ref (a 4), .ref (a 5)])), (a 4, .inl (eJ E, 22, .inr (.inl r4.1))), (a 5, .inl (eI E, 22, .inl r4.2))]) (pre := [(a 0, .inr (1, [.ref (a 1), .ref (a 3), .int 0, .int hi, .int lo, .int hi, .int (B.1 4), .int (B.1 5), .int 0, .int 0, .int 0, .int (-10000001), .int (-10000001), .int 0, .int 100])), (a 1, .inr (2, [.ref (a 2)])), (a 2, .inl (eI E, 11, .inl B.2.1))]) (post := []) (As := []) (rest := []) (q0 := 0) ⟨hx, hb, hml, hown, hts⟩ hr4 (cwV 0 hts gX1_begin_X0_forget rfl rfl rfl qvX0_forget ⟨Nat.le_of_ble_eq_true rfl, Nat.le_of_ble_eq_true rfl⟩) hK hP hD hS hA rfl rfl rfl rfl rfl hl.1 rfl (Nat.le_of_ble_eq_true rfl) dX1_begin_78 ⟨Nat.zero_le _, Nat.zero_le _⟩ (fun H locs hP hD hS => ?_)
    refine lv_iload_n (pc := 81) hx hb dX1_begin_81 rfl (lv_at hl 0 rfl) ?_
    subst er4
    subst ex3
    subst er1
    have hfn : fX1_begin B lo hi = _ := if_neg c_2
    rw [hfn] at hQ
    exact hQ _ _ _ _ _ rfl hP hD hS dX1_begin_82
  · refine lv_ldc (v := (-10000002)) (pc := 8) hx hb hown (hts _ mm_X1_begin_1) dX1_begin_8 ?_
    subst er1
    have hfn : fX1_begin B lo hi = _ := if_pos c_2
    rw [hfn] at hQ
    exact hQ _ _ _ _ _ rfl hP hD hS dX1_begin_10

def fX1_pass (B : Bat) (i : Int32) (n : Int32) : Int32 × (Bat) :=
  let r1 : Int32 := fX5_within i (-99) 99
  if r1 = 0 then
    ((-10000002), B)
  else
    let r3 : Int32 := fX5_within n 1 999
    if r3 = 0 then
      ((-10000002), B)
    else
      let x5 : Int32 := (if ((B.1 0) - (n * (i + (B.1 4)))) < 0 then 0 else ((B.1 0) - (n * (i + (B.1 4)))))
      let x6 : Int32 := (if (B.1 3) < ((B.1 1) - (n * (i - (B.1 4)))) then (B.1 3) else ((B.1 1) - (n * (i - (B.1 4)))))
      if x6 < 0 then
        ((-10000003), B)
      else
        if (B.1 3) < x5 then
          ((-10000003), B)
        else
          if x5 ≤ x6 then
            let x10 : Int32 := (B.1 6) + (n * i)
            let x11 : Int32 := (B.1 7) + n
            let r12 : Bat := fX1_showPassing ((upd (upd (upd (upd B.1 0 x5) 1 x6) 6 x10) 7 x11), B.2.1, B.2.2.1, B.2.2.2) i n
            let r13 : Bat := fX1_showEmpty r12
            ((r13.1 1) - (r13.1 0), r13)
          else
            ((-10000003), B)
abbrev rX1_pass : Room := { frames := 3, cells := 0, slots := 0, locals := 57 }
theorem mm_X1_pass_17 : Cond.initialized RX5 ∈ wsX1_pass := List.mem_of_getElem? (i := 17) rfl
theorem mm_X1_pass_16 : Cond.static yX5_within ∈ wsX1_pass := List.mem_of_getElem? (i := 16) rfl
theorem mm_X1_pass_1 : Cond.constant RX1 77 (-10000002) ∈ wsX1_pass := List.mem_of_getElem? (i := 1) rfl
theorem mm_X1_pass_2 : Cond.fieldLink RX1 58 "GaugeBounds$Battery" "low" "I" ∈ wsX1_pass := List.mem_of_getElem? (i := 2) rfl
theorem mm_X1_pass_3 : Cond.fieldLink RX1 35 "GaugeBounds$Battery" "offset" "I" ∈ wsX1_pass := List.mem_of_getElem? (i := 3) rfl
theorem mm_X1_pass_4 : Cond.methodLink RX1 89 Lib.Math.max.name ∈ wsX1_pass := List.mem_of_getElem? (i := 4) rfl
theorem mm_X1_pass_5 : Cond.static Lib.Math.max.name ∈ wsX1_pass := List.mem_of_getElem? (i := 5) rfl
theorem mm_X1_pass_6 : Cond.initialized "java/lang/Math" ∈ wsX1_pass := List.mem_of_getElem? (i := 6) rfl
theorem mm_X1_pass_7 : Cond.code Lib.Math.max.name Lib.Math.max.code 2 (some .int) ∈ wsX1_pass := List.mem_of_getElem? (i := 7) rfl
theorem mm_X1_pass_8 : Cond.fieldLink RX1 25 "GaugeBounds$Battery" "high" "I" ∈ wsX1_pass := List.mem_of_getElem? (i := 8) rfl
theorem mm_X1_pass_9 : Cond.fieldLink RX1 32 "GaugeBounds$Battery" "mostCapacity" "I" ∈ wsX1_pass := List.mem_of_getElem? (i := 9) rfl
theorem mm_X1_pass_10 : Cond.methodLink RX1 94 Lib.Math.min.name ∈ wsX1_pass := List.mem_of_getElem? (i := 10) rfl
theorem mm_X1_pass_11 : Cond.static Lib.Math.min.name ∈ wsX1_pass := List.mem_of_getElem? (i := 11) rfl
theorem mm_X1_pass_12 : Cond.code Lib.Math.min.name Lib.Math.min.code 2 (some .int) ∈ wsX1_pass := List.mem_of_getElem? (i := 12) rfl
theorem mm_X1_pass_13 : Cond.constant RX1 97 (-10000003) ∈ wsX1_pass := List.mem_of_getElem? (i := 13) rfl
theorem mm_X1_pass_14 : Cond.fieldLink RX1 61 "GaugeBounds$Battery" "drawn" "I" ∈ wsX1_pass := List.mem_of_getElem? (i := 14) rfl
theorem mm_X1_pass_15 : Cond.fieldLink RX1 64 "GaugeBounds$Battery" "steps" "I" ∈ wsX1_pass := List.mem_of_getElem? (i := 15) rfl
theorem ii_X1_pass_X1 : ∀ w ∈ wsX10, w ∈ wsX1_pass := fun _ h => List.mem_cons_of_mem _ (List.mem_append_right _ (h))
theorem qvX1_pass : yX1_pass.cls = RX1 ∧ yX1_pass.cls ≠ "java/lang/invoke/MethodHandle" ∧ yX1_pass.cls ≠ "java/lang/invoke/VarHandle" ∧ (parseMethodDescriptor yX1_pass.desc).map (fun d => d.parameters.length) = some 2 := by decide +kernel
set_option maxHeartbeats 4000000 in
set_option maxRecDepth 100000 in
theorem kX1_pass (l : Launch) (E : gEnv) (a : Nat → Nat) (B : Bat) (i : Int32) (n : Int32) : gMi l E yX1_pass wsX1_pass rX1_pass [.ref (a 0), .int i, .int n] (wB E a B) (fX1_pass B i n).1 (wB E a ((fX1_pass B i n).2)) := by
  refine gMi_of (cc := cX1_pass) (maxL := 5) (ret := (some .int)) (by decide) rfl rfl (Nat.le_of_ble_eq_true rfl) ?_
  intro p e s m args below meth c A Q ls hB hQ
  obtain ⟨hx, hb, hml, hown, hts, hK, hP, hD, hA, hS, hl⟩ := hB
  have hown : s.vm.findClass RX1 = some m.cls := hown
  have hP : va_P E.1 vwCl [(a 0, .inr (1, [.ref (a 1), .ref (a 3), .int (B.1 0), .int (B.1 1), .int (B.1 2), .int (B.1 3), .int (B.1 4), .int (B.1 5), .int (B.1 6), .int (B.1 7), .int (B.1 8), .int (B.1 9), .int (B.1 10), .int (B.1 11), .int (B.1 12)])), (a 1, .inr (2, [.ref (a 2)])), (a 2, .inl (eI E, 11, .inl B.2.1)), (a 3, .inr (0, [.ref (a 4), .ref (a 5)])), (a 4, .inl (eJ E, 22, .inr (.inl B.2.2.1))), (a 5, .inl (eI E, 22, .inl B.2.2.2))] s.heap := hP
  have hD : va_D A [(a 0, .inr (1, [.ref (a 1), .ref (a 3), .int (B.1 0), .int (B.1 1), .int (B.1 2), .int (B.1 3), .int (B.1 4), .int (B.1 5), .int (B.1 6), .int (B.1 7), .int (B.1 8), .int (B.1 9), .int (B.1 10), .int (B.1 11), .int (B.1 12)])), (a 1, .inr (2, [.ref (a 2)])), (a 2, .inl (eI E, 11, .inl B.2.1)), (a 3, .inr (0, [.ref (a 4), .ref (a 5)])), (a 4, .inl (eJ E, 22, .inr (.inl B.2.2.1))), (a 5, .inl (eI E, 22, .inl B.2.2.2))] := hD
  have hl : lv_has ls 5 [(0, .ref (a 0)), (1, .int i), (2, .int n)] := hl
  refine lv_iload_n (pc := 0) hx hb dX1_pass_0 rfl (lv_at hl 1 rfl) ?_
  refine lv_bipush (v := (-99)) (pc := 1) hx hb dX1_pass_1 rfl ?_
  refine lv_bipush (v := 99) (pc := 3) hx hb dX1_pass_3 rfl ?_
  obtain ⟨r1, er1⟩ : ∃ z : Int32, fX5_within i (-99) 99 = z := ⟨_, rfl⟩
  have hr1 := kX5_within l E i (-99) 99
  rw [er1] at hr1
  refine gcNi (pc := 5) (As := [.int i, .int (-99), .int 99]) (rest := []) ⟨hx, hb, hml, hown, hts⟩ hr1 ⟨va_cnB 3 hts ggX1_pass_X5_within rfl rfl rfl hK.2.2.1 (hts _ mm_X1_pass_17) qnX5_within ⟨Nat.le_of_ble_eq_true rfl, Nat.le_of_ble_eq_true rfl⟩, hts _ mm_X1_pass_16, trivial⟩ hK hP hD hS hA rfl hl.1 rfl (Nat.le_of_ble_eq_true rfl) dX1_pass_5 ⟨Nat.zero_le _, Nat.zero_le _⟩ (fun H locs hP hD hS => ?_)
  refine lv_if_eq (tgt := 22) (pc := 8) hx hb dX1_pass_8 (by decide) (fun c_2 => ?_) (fun c_2 => ?_)
  · refine lv_ldc (v := (-10000002)) (pc := 22) hx hb hown (hts _ mm_X1_pass_1) dX1_pass_22 ?_
    subst er1
    have hfn : fX1_pass B i n = _ := if_pos c_2
    rw [hfn] at hQ
    exact hQ _ _ _ _ _ rfl hP hD hS dX1_pass_24
  · refine lv_iload_n (pc := 11) hx hb dX1_pass_11 rfl (lv_at hl 2 rfl) ?_
    refine lv_iconst (v := 1) (pc := 12) hx hb dX1_pass_12 rfl ?_
    refine lv_sipush (v := 999) (pc := 13) hx hb dX1_pass_13 rfl ?_
    obtain ⟨r3, er3⟩ : ∃ z : Int32, fX5_within n 1 999 = z := ⟨_, rfl⟩
    have hr3 := kX5_within l E n 1 999
    rw [er3] at hr3
    refine gcNi (pc := 16) (As := [.int n, .int 1, .int 999]) (rest := []) ⟨hx, hb, hml, hown, hts⟩ hr3 ⟨va_cnB 3 hts ggX1_pass_X5_within rfl rfl rfl hK.2.2.1 (hts _ mm_X1_pass_17) qnX5_within ⟨Nat.le_of_ble_eq_true rfl, Nat.le_of_ble_eq_true rfl⟩, hts _ mm_X1_pass_16, trivial⟩ hK hP hD hS hA rfl hl.1 rfl (Nat.le_of_ble_eq_true rfl) dX1_pass_16 ⟨Nat.zero_le _, Nat.zero_le _⟩ (fun H locs hP hD hS => ?_)
    refine lv_if_ne (tgt := 25) (pc := 19) hx hb dX1_pass_19 (by decide) (fun c_4 => ?_) (fun c_4 => ?_)
    · refine lv_aload_n (pc := 25) hx hb dX1_pass_25 rfl (lv_at hl 0 rfl) ?_
      refine g_get (v := .int (B.1 0)) (pc := 26) hx hb hts ii_X1_pass_X1 hown hK.1 hP 0 rfl rfl 2 (by decide) ⟨rfl, rfl, rfl⟩ mm_X1_pass_2 rfl dX1_pass_26 ?_
      refine lv_iload_n (pc := 29) hx hb dX1_pass_29 rfl (lv_at hl 2 rfl) ?_
      refine lv_iload_n (pc := 30) hx hb dX1_pass_30 rfl (lv_at hl 1 rfl) ?_
      refine lv_aload_n (pc := 31) hx hb dX1_pass_31 rfl (lv_at hl 0 rfl) ?_
      refine g_get (v := .int (B.1 4)) (pc := 32) hx hb hts ii_X1_pass_X1 hown hK.1 hP 0 rfl rfl 6 (by decide) ⟨rfl, rfl, rfl⟩ mm_X1_pass_3 rfl dX1_pass_32 ?_
      refine lv_iadd (pc := 35) hx hb dX1_pass_35 ?_
      refine lv_imul (pc := 36) hx hb dX1_pass_36 ?_
      refine lv_isub (pc := 37) hx hb dX1_pass_37 ?_
      refine lv_iconst (v := 0) (pc := 38) hx hb dX1_pass_38 rfl ?_
      refine va_mmax (pc := 39) hx hb (hml.trans hl.1.symm) hown (hts _ mm_X1_pass_4) (hts _ mm_X1_pass_5) (hts _ mm_X1_pass_6) (hts _ mm_X1_pass_7) (Nat.le_of_ble_eq_true rfl) (Nat.le_of_ble_eq_true rfl) (Nat.zero_le _) (Nat.zero_le _) dX1_pass_39 ?_
      refine g_topi (fun x5 ex5 => ?_)
      refine lv_istore_n (lv' := [(3, .int x5), (0, .ref (a 0)), (1, .int i), (2, .int n)]) (pc := 42) hx hb dX1_pass_42 rfl hl (by decide) rfl (fun ls hl => ?_)
      refine lv_aload_n (pc := 43) hx hb dX1_pass_43 rfl (lv_at hl 1 rfl) ?_
      refine g_get (v := .int (B.1 1)) (pc := 44) hx hb hts ii_X1_pass_X1 hown hK.1 hP 0 rfl rfl 3 (by decide) ⟨rfl, rfl, rfl⟩ mm_X1_pass_8 rfl dX1_pass_44 ?_
      refine lv_iload_n (pc := 47) hx hb dX1_pass_47 rfl (lv_at hl 3 rfl) ?_
      refine lv_iload_n (pc := 48) hx hb dX1_pass_48 rfl (lv_at hl 2 rfl) ?_
      refine lv_aload_n (pc := 49) hx hb dX1_pass_49 rfl (lv_at hl 1 rfl) ?_
      refine g_get (v := .int (B.1 4)) (pc := 50) hx hb hts ii_X1_pass_X1 hown hK.1 hP 0 rfl rfl 6 (by decide) ⟨rfl, rfl, rfl⟩ mm_X1_pass_3 rfl dX1_pass_50 ?_
      refine lv_isub (pc := 53) hx hb dX1_pass_53 ?_
      refine lv_imul (pc := 54) hx hb dX1_pass_54 ?_
      refine lv_isub (pc := 55) hx hb dX1_pass_55 ?_
      refine lv_aload_n (pc := 56) hx hb dX1_pass_56 rfl (lv_at hl 1 rfl) ?_
      refine g_get (v := .int (B.1 3)) (pc := 57) hx hb hts ii_X1_pass_X1 hown hK.1 hP 0 rfl rfl 5 (by decide) ⟨rfl, rfl, rfl⟩ mm_X1_pass_9 rfl dX1_pass_57 ?_
      refine va_mmin (pc := 60) hx hb (hml.trans hl.1.symm) hown (hts _ mm_X1_pass_10) (hts _ mm_X1_pass_11) (hts _ mm_X1_pass_6) (hts _ mm_X1_pass_12) (Nat.le_of_ble_eq_true rfl) (Nat.le_of_ble_eq_true rfl) (Nat.zero_le _) (Nat.zero_le _) dX1_pass_60 ?_
      refine g_topi (fun x6 ex6 => ?_)
      refine lv_istore (lv' := [(4, .int x6), (3, .int x5), (0, .ref (a 0)), (1, .int i), (2, .int n)]) (pc := 63) hx hb dX1_pass_63 hl (by decide) rfl (fun ls hl => ?_)
      refine lv_iload (pc := 65) hx hb dX1_pass_65 (lv_at hl 0 rfl) ?_
      refine lv_if_lt (tgt := 84) (pc := 67) hx hb dX1_pass_67 (by decide) (fun c_7 => ?_) (fun c_7 => ?_)
      · refine lv_ldc (v := (-10000003)) (pc := 84) hx hb hown (hts _ mm_X1_pass_13) dX1_pass_84 ?_
        subst ex6
        subst ex5
        subst er3
        subst er1
        have hfn : fX1_pass B i n = _ := (if_neg c_2).trans ((if_neg c_4).trans (if_pos c_7))
        rw [hfn] at hQ
        exact hQ _ _ _ _ _ rfl hP hD hS dX1_pass_86
      · refine lv_iload_n (pc := 70) hx hb dX1_pass_70 rfl (lv_at hl 1 rfl) ?_
        refine lv_aload_n (pc := 71) hx hb dX1_pass_71 rfl (lv_at hl 2 rfl) ?_
        refine g_get (v := .int (B.1 3)) (pc := 72) hx hb hts ii_X1_pass_X1 hown hK.1 hP 0 rfl rfl 5 (by decide) ⟨rfl, rfl, rfl⟩ mm_X1_pass_9 rfl dX1_pass_72 ?_
        refine lv_icmp_gt (tgt := 84) (pc := 75) hx hb dX1_pass_75 (by decide) (fun c_8 => ?_) (fun c_8 => ?_)
        · refine lv_ldc (v := (-10000003)) (pc := 84) hx hb hown (hts _ mm_X1_pass_13) dX1_pass_84 ?_
          subst ex6
          subst ex5
          subst er3
          subst er1
          have hfn : fX1_pass B i n = _ := (if_neg c_2).trans ((if_neg c_4).trans ((if_neg c_7).trans (if_pos c_8)))
          rw [hfn] at hQ
          exact hQ _ _ _ _ _ rfl hP hD hS dX1_pass_86
        · refine lv_iload_n (pc := 78) hx hb dX1_pass_78 rfl (lv_at hl 1 rfl) ?_
          refine lv_iload (pc := 79) hx hb dX1_pass_79 (lv_at hl 0 rfl) ?_
          refine lv_icmp_le (tgt := 87) (pc := 81) hx hb dX1_pass_81 (by decide) (fun c_9 => ?_) (fun c_9 => ?_)
          · refine lv_aload_n (pc := 87) hx hb dX1_pass_87 rfl (lv_at hl 2 rfl) ?_
            refine lv_iload_n (pc := 88) hx hb dX1_pass_88 rfl (lv_at hl 1 rfl) ?_
            refine g_put (w1 := [(a 0, .inr (1, [.ref (a 1), .ref (a 3), .int x5, .int (B.1 1), .int (B.1 2), .int (B.1 3), .int (B.1 4), .int (B.1 5), .int (B.1 6), .int (B.1 7), .int (B.1 8), .int (B.1 9), .int (B.1 10), .int (B.1 11), .int (B.1 12)])), (a 1, .inr (2, [.ref (a 2)])), (a 2, .inl (eI E, 11, .inl B.2.1)), (a 3, .inr (0, [.ref (a 4), .ref (a 5)])), (a 4, .inl (eJ E, 22, .inr (.inl B.2.2.1))), (a 5, .inl (eI E, 22, .inl B.2.2.2))]) (pc := 89) hx hb hts ii_X1_pass_X1 tyX1 tyX1_ok nmX1 hown hK.1 hP hD hS 0 rfl rfl 2 (by decide) ⟨rfl, rfl, rfl⟩ mm_X1_pass_2 rfl rfl rfl rfl (Nat.le_of_ble_eq_true rfl) rfl dX1_pass_89 (fun H locs hP hD hS => ?_)
            refine lv_aload_n (pc := 92) hx hb dX1_pass_92 rfl (lv_at hl 2 rfl) ?_
            refine lv_iload (pc := 93) hx hb dX1_pass_93 (lv_at hl 0 rfl) ?_
            refine g_put (w1 := [(a 0, .inr (1, [.ref (a 1), .ref (a 3), .int x5, .int x6, .int (B.1 2), .int (B.1 3), .int (B.1 4), .int (B.1 5), .int (B.1 6), .int (B.1 7), .int (B.1 8), .int (B.1 9), .int (B.1 10), .int (B.1 11), .int (B.1 12)])), (a 1, .inr (2, [.ref (a 2)])), (a 2, .inl (eI E, 11, .inl B.2.1)), (a 3, .inr (0, [.ref (a 4), .ref (a 5)])), (a 4, .inl (eJ E, 22, .inr (.inl B.2.2.1))), (a 5, .inl (eI E, 22, .inl B.2.2.2))]) (pc := 95) hx hb hts ii_X1_pass_X1 tyX1 tyX1_ok nmX1 hown hK.1 hP hD hS 0 rfl rfl 3 (by decide) ⟨rfl, rfl, rfl⟩ mm_X1_pass_8 rfl rfl rfl rfl (Nat.le_of_ble_eq_true rfl) rfl dX1_pass_95 (fun H locs hP hD hS => ?_)
            refine lv_aload_n (pc := 98) hx hb dX1_pass_98 rfl (lv_at hl 2 rfl) ?_
            refine lv_dup (pc := 99) hx hb dX1_pass_99 rfl ?_
            refine g_get (v := .int (B.1 6)) (pc := 100) hx hb hts ii_X1_pass_X1 hown hK.1 hP 0 rfl rfl 8 (by decide) ⟨rfl, rfl, rfl⟩ mm_X1_pass_14 rfl dX1_pass_100 ?_
            refine lv_iload_n (pc := 103) hx hb dX1_pass_103 rfl (lv_at hl 4 rfl) ?_
            refine lv_iload_n (pc := 104) hx hb dX1_pass_104 rfl (lv_at hl 3 rfl) ?_
            refine lv_imul (pc := 105) hx hb dX1_pass_105 ?_
            refine lv_iadd (pc := 106) hx hb dX1_pass_106 ?_
            refine g_topi (fun x10 ex10 => ?_)
            refine g_put (w1 := [(a 0, .inr (1, [.ref (a 1), .ref (a 3), .int x5, .int x6, .int (B.1 2), .int (B.1 3), .int (B.1 4), .int (B.1 5), .int x10, .int (B.1 7), .int (B.1 8), .int (B.1 9), .int (B.1 10), .int (B.1 11), .int (B.1 12)])), (a 1, .inr (2, [.ref (a 2)])), (a 2, .inl (eI E, 11, .inl B.2.1)), (a 3, .inr (0, [.ref (a 4), .ref (a 5)])), (a 4, .inl (eJ E, 22, .inr (.inl B.2.2.1))), (a 5, .inl (eI E, 22, .inl B.2.2.2))]) (pc := 107) hx hb hts ii_X1_pass_X1 tyX1 tyX1_ok nmX1 hown hK.1 hP hD hS 0 rfl rfl 8 (by decide) ⟨rfl, rfl, rfl⟩ mm_X1_pass_14 rfl rfl rfl rfl (Nat.le_of_ble_eq_true rfl) rfl dX1_pass_107 (fun H locs hP hD hS => ?_)
            refine lv_aload_n (pc := 110) hx hb dX1_pass_110 rfl (lv_at hl 2 rfl) ?_
            refine lv_dup (pc := 111) hx hb dX1_pass_111 rfl ?_
            refine g_get (v := .int (B.1 7)) (pc := 112) hx hb hts ii_X1_pass_X1 hown hK.1 hP 0 rfl rfl 9 (by decide) ⟨rfl, rfl, rfl⟩ mm_X1_pass_15 rfl dX1_pass_112 ?_
            refine lv_iload_n (pc := 115) hx hb dX1_pass_115 rfl (lv_at hl 4 rfl) ?_
            refine lv_iadd (pc := 116) hx hb dX1_pass_116 ?_
            refine g_topi (fun x11 ex11 => ?_)
            refine g_put (w1 := [(a 0, .inr (1, [.ref (a 1), .ref (a 3), .int x5, .int x6, .int (B.1 2), .int (B.1 3), .int (B.1 4), .int (B.1 5), .int x10, .int x11, .int (B.1 8), .int (B.1 9), .int (B.1 10), .int (B.1 11), .int (B.1 12)])), (a 1, .inr (2, [.ref (a 2)])), (a 2, .inl (eI E, 11, .inl B.2.1)), (a 3, .inr (0, [.ref (a 4), .ref (a 5)])), (a 4, .inl (eJ E, 22, .inr (.inl B.2.2.1))), (a 5, .inl (eI E, 22, .inl B.2.2.2))]) (pc := 117) hx hb hts ii_X1_pass_X1 tyX1 tyX1_ok nmX1 hown hK.1 hP hD hS 0 rfl rfl 9 (by decide) ⟨rfl, rfl, rfl⟩ mm_X1_pass_15 rfl rfl rfl rfl (Nat.le_of_ble_eq_true rfl) rfl dX1_pass_117 (fun H locs hP hD hS => ?_)
            refine lv_aload_n (pc := 120) hx hb dX1_pass_120 rfl (lv_at hl 2 rfl) ?_
            refine lv_iload_n (pc := 121) hx hb dX1_pass_121 rfl (lv_at hl 3 rfl) ?_
            refine lv_iload_n (pc := 122) hx hb dX1_pass_122 rfl (lv_at hl 4 rfl) ?_
            obtain ⟨r12, er12⟩ : ∃ z : Bat, fX1_showPassing ((upd (upd (upd (upd B.1 0 x5) 1 x6) 6 x10) 7 x11), B.2.1, B.2.2.1, B.2.2.2) i n = z := ⟨_, rfl⟩
            have hr12 := kX1_showPassing l E a ((upd (upd (upd (upd B.1 0 x5) 1 x6) 6 x10) 7 x11), B.2.1, B.2.2.1, B.2.2.2) i n
            rw [er12] at hr12
            refine gcVv (pc := 123) (w1 := [(a 0, .inr (1, [.ref (a 1), .ref (a 3), .int (r12.1 0), .int (r12.1 1), .int (r12.1 2), .int (r12.1 3), .int (r12.1 4), .int (r12.1 5), .int (r12.1 6), .int (r12.1 7), .int (r12.1 8), .int (r12.1 9), .int (r12.1 10), .int (r12.1 11), .int (r12.1 12)])), (a 1, .inr (2, [.ref (a 2)])), (a 2, .inl (eI E, 11, .inl r12.2.1)), (a 3, .inr (0, [.ref (a 4), .ref (a 5)])), (a 4, .inl (eJ E, 22, .inr (.inl r12.2.2.1))), (a 5, .inl (eI E, 22, .inl r12.2.2.2))]) (pre := []) (post := []) (As := [.int i, .int n]) (rest := []) (q0 := 0) ⟨hx, hb, hml, hown, hts⟩ hr12 (cwV 2 hts gX1_pass_X1_showPassing rfl rfl rfl qvX1_showPassing ⟨Nat.le_of_ble_eq_true rfl, Nat.le_of_ble_eq_true rfl⟩) hK hP hD hS hA rfl rfl rfl rfl rfl hl.1 rfl (Nat.le_of_ble_eq_true rfl) dX1_pass_123 ⟨Nat.zero_le _, Nat.zero_le _⟩ (fun H locs hP hD hS => ?_)
            refine lv_aload_n (pc := 126) hx hb dX1_pass_126 rfl (lv_at hl 2 rfl) ?_
            obtain ⟨r13, er13⟩ : ∃ z : Bat, fX1_showEmpty r12 = z := ⟨_, rfl⟩
            have hr13 := kX1_showEmpty l E a r12
            rw [er13] at hr13
            refine gcVv (pc := 127) (w1 := [(a 0, .inr (1, [.ref (a 1), .ref (a 3), .int (r13.1 0), .int (r13.1 1), .int (r13.1 2), .int (r13.1 3), .int (r13.1 4), .int (r13.1 5), .int (r13.1 6), .int (r13.1 7), .int (r13.1 8), .int (r13.1 9), .int (r13.1 10), .int (r13.1 11), .int (r13.1 12)])), (a 1, .inr (2, [.ref (a 2)])), (a 2, .inl (eI E, 11, .inl r13.2.1)), (a 3, .inr (0, [.ref (a 4), .ref (a 5)])), (a 4, .inl (eJ E, 22, .inr (.inl r13.2.2.1))), (a 5, .inl (eI E, 22, .inl r13.2.2.2))]) (pre := []) (post := []) (As := []) (rest := []) (q0 := 0) ⟨hx, hb, hml, hown, hts⟩ hr13 (cwV 0 hts gX1_pass_X1_showEmpty rfl rfl rfl qvX1_showEmpty ⟨Nat.le_of_ble_eq_true rfl, Nat.le_of_ble_eq_true rfl⟩) hK hP hD hS hA rfl rfl rfl rfl rfl hl.1 rfl (Nat.le_of_ble_eq_true rfl) dX1_pass_127 ⟨Nat.zero_le _, Nat.zero_le _⟩ (fun H locs hP hD hS => ?_)
            refine lv_aload_n (pc := 130) hx hb dX1_pass_130 rfl (lv_at hl 2 rfl) ?_
            refine g_get (v := .int (r13.1 1)) (pc := 131) hx hb hts ii_X1_pass_X1 hown hK.1 hP 0 rfl rfl 3 (by decide) ⟨rfl, rfl, rfl⟩ mm_X1_pass_8 rfl dX1_pass_131 ?_
            refine lv_aload_n (pc := 134) hx hb dX1_pass_134 rfl (lv_at hl 2 rfl) ?_
            refine g_get (v := .int (r13.1 0)) (pc := 135) hx hb hts ii_X1_pass_X1 hown hK.1 hP 0 rfl rfl 2 (by decide) ⟨rfl, rfl, rfl⟩ mm_X1_pass_2 rfl dX1_pass_135 ?_
            refine lv_isub (pc := 138) hx hb dX1_pass_138 ?_
            subst er13
            subst er12
            subst ex11
            subst ex10
            subst ex6
            subst ex5
            subst er3
            subst er1
            have hfn : fX1_pass B i n = _ := (if_neg c_2).trans ((if_neg c_4).trans ((if_neg c_7).trans ((if_neg c_8).trans (if_pos c_9))))
            rw [hfn] at hQ
            exact hQ _ _ _ _ _ rfl hP hD hS dX1_pass_139
          · refine lv_ldc (v := (-10000003)) (pc := 84) hx hb hown (hts _ mm_X1_pass_13) dX1_pass_84 ?_
            subst ex6
            subst ex5
            subst er3
            subst er1
            have hfn : fX1_pass B i n = _ := (if_neg c_2).trans ((if_neg c_4).trans ((if_neg c_7).trans ((if_neg c_8).trans (if_neg c_9))))
            rw [hfn] at hQ
            exact hQ _ _ _ _ _ rfl hP hD hS dX1_pass_86
    · refine lv_ldc (v := (-10000002)) (pc := 22) hx hb hown (hts _ mm_X1_pass_1) dX1_pass_22 ?_
      subst er3
      subst er1
      have hfn : fX1_pass B i n = _ := (if_neg c_2).trans (if_pos c_4)
      rw [hfn] at hQ
      exact hQ _ _ _ _ _ rfl hP hD hS dX1_pass_24

def fX1_restBound (B : Bat) (v : Int32) (w : Int32) : Int32 :=
  let r1 : Int32 := fX1_isVoltage v
  if r1 = 0 then
    (-10000002)
  else
    let r3 : Int32 := fX5_within w 0 1
    if r3 = 0 then
      (-10000002)
    else
      let r5 : Int32 := fX2_leastReaching B.2.1 (v - (B.1 5))
      let r6 : Int32 := fX2_greatestWithin B.2.1 (v + (B.1 5))
      if r5 = (-10000001) then
        let x9 : Int32 := (if w = 0 then r5 else r6)
        x9
      else
        if r6 = (-10000001) then
          let x16 : Int32 := (if w = 0 then r5 else r6)
          x16
        else
          let x13 : Int32 := (if w = 0 then (let x14 : Int32 := (if r6 < r5 then r6 else r5); x14) else (let x13 : Int32 := (if r5 < r6 then r6 else r5); x13))
          x13
abbrev rX1_restBound : Room := { frames := 3, cells := 0, slots := 0, locals := 68 }
theorem mm_X1_restBound_1 : Cond.constant RX1 77 (-10000002) ∈ wsX1_restBound := List.mem_of_getElem? (i := 1) rfl
theorem mm_X1_restBound_17 : Cond.initialized RX5 ∈ wsX1_restBound := List.mem_of_getElem? (i := 17) rfl
theorem mm_X1_restBound_16 : Cond.static yX5_within ∈ wsX1_restBound := List.mem_of_getElem? (i := 16) rfl
theorem mm_X1_restBound_2 : Cond.fieldLink RX1 12 "GaugeBounds$Battery" "curve" "LGaugeBounds$Curve;" ∈ wsX1_restBound := List.mem_of_getElem? (i := 2) rfl
theorem mm_X1_restBound_3 : Cond.fieldLink RX1 38 "GaugeBounds$Battery" "cling" "I" ∈ wsX1_restBound := List.mem_of_getElem? (i := 3) rfl
theorem mm_X1_restBound_4 : Cond.constant RX1 41 (-10000001) ∈ wsX1_restBound := List.mem_of_getElem? (i := 4) rfl
theorem mm_X1_restBound_9 : Cond.methodLink RX1 89 Lib.Math.max.name ∈ wsX1_restBound := List.mem_of_getElem? (i := 9) rfl
theorem mm_X1_restBound_10 : Cond.static Lib.Math.max.name ∈ wsX1_restBound := List.mem_of_getElem? (i := 10) rfl
theorem mm_X1_restBound_7 : Cond.initialized "java/lang/Math" ∈ wsX1_restBound := List.mem_of_getElem? (i := 7) rfl
theorem mm_X1_restBound_11 : Cond.code Lib.Math.max.name Lib.Math.max.code 2 (some .int) ∈ wsX1_restBound := List.mem_of_getElem? (i := 11) rfl
theorem mm_X1_restBound_5 : Cond.methodLink RX1 94 Lib.Math.min.name ∈ wsX1_restBound := List.mem_of_getElem? (i := 5) rfl
theorem mm_X1_restBound_6 : Cond.static Lib.Math.min.name ∈ wsX1_restBound := List.mem_of_getElem? (i := 6) rfl
theorem mm_X1_restBound_8 : Cond.code Lib.Math.min.name Lib.Math.min.code 2 (some .int) ∈ wsX1_restBound := List.mem_of_getElem? (i := 8) rfl
theorem ii_X1_restBound_X1 : ∀ w ∈ wsX10, w ∈ wsX1_restBound := fun _ h => List.mem_cons_of_mem _ (List.mem_append_left _ (List.mem_append_right _ (h)))
theorem qvX1_restBound : yX1_restBound.cls = RX1 ∧ yX1_restBound.cls ≠ "java/lang/invoke/MethodHandle" ∧ yX1_restBound.cls ≠ "java/lang/invoke/VarHandle" ∧ (parseMethodDescriptor yX1_restBound.desc).map (fun d => d.parameters.length) = some 2 := by decide +kernel
set_option maxHeartbeats 4000000 in
set_option maxRecDepth 100000 in
theorem kX1_restBound (l : Launch) (E : gEnv) (a : Nat → Nat) (B : Bat) (v : Int32) (w : Int32) : gMi l E yX1_restBound wsX1_restBound rX1_restBound [.ref (a 0), .int v, .int w] (wB E a B) (fX1_restBound B v w) (wB E a B) := by
  refine gMi_of (cc := cX1_restBound) (maxL := 5) (ret := (some .int)) (by decide) rfl rfl (Nat.le_of_ble_eq_true rfl) ?_
  intro p e s m args below meth c A Q ls hB hQ
  obtain ⟨hx, hb, hml, hown, hts, hK, hP, hD, hA, hS, hl⟩ := hB
  have hown : s.vm.findClass RX1 = some m.cls := hown
  have hP : va_P E.1 vwCl [(a 0, .inr (1, [.ref (a 1), .ref (a 3), .int (B.1 0), .int (B.1 1), .int (B.1 2), .int (B.1 3), .int (B.1 4), .int (B.1 5), .int (B.1 6), .int (B.1 7), .int (B.1 8), .int (B.1 9), .int (B.1 10), .int (B.1 11), .int (B.1 12)])), (a 1, .inr (2, [.ref (a 2)])), (a 2, .inl (eI E, 11, .inl B.2.1)), (a 3, .inr (0, [.ref (a 4), .ref (a 5)])), (a 4, .inl (eJ E, 22, .inr (.inl B.2.2.1))), (a 5, .inl (eI E, 22, .inl B.2.2.2))] s.heap := hP
  have hD : va_D A [(a 0, .inr (1, [.ref (a 1), .ref (a 3), .int (B.1 0), .int (B.1 1), .int (B.1 2), .int (B.1 3), .int (B.1 4), .int (B.1 5), .int (B.1 6), .int (B.1 7), .int (B.1 8), .int (B.1 9), .int (B.1 10), .int (B.1 11), .int (B.1 12)])), (a 1, .inr (2, [.ref (a 2)])), (a 2, .inl (eI E, 11, .inl B.2.1)), (a 3, .inr (0, [.ref (a 4), .ref (a 5)])), (a 4, .inl (eJ E, 22, .inr (.inl B.2.2.1))), (a 5, .inl (eI E, 22, .inl B.2.2.2))] := hD
  have hl : lv_has ls 5 [(0, .ref (a 0)), (1, .int v), (2, .int w)] := hl
  refine lv_iload_n (pc := 0) hx hb dX1_restBound_0 rfl (lv_at hl 1 rfl) ?_
  obtain ⟨r1, er1⟩ : ∃ z : Int32, fX1_isVoltage v = z := ⟨_, rfl⟩
  have hr1 := kX1_isVoltage l E v
  rw [er1] at hr1
  refine gcSi (pc := 1) (As := [.int v]) (rest := []) ⟨hx, hb, hml, hown, hts⟩ hr1 (cwS 1 hts gX1_restBound_X1_isVoltage rfl rfl rfl qsX1_isVoltage ⟨Nat.le_of_ble_eq_true rfl, Nat.le_of_ble_eq_true rfl⟩) hK hP hD hS hA rfl hl.1 rfl (Nat.le_of_ble_eq_true rfl) dX1_restBound_1 ⟨Nat.zero_le _, Nat.zero_le _⟩ (fun H locs hP hD hS => ?_)
  refine lv_if_eq (tgt := 16) (pc := 4) hx hb dX1_restBound_4 (by decide) (fun c_2 => ?_) (fun c_2 => ?_)
  · refine lv_ldc (v := (-10000002)) (pc := 16) hx hb hown (hts _ mm_X1_restBound_1) dX1_restBound_16 ?_
    subst er1
    have hfn : fX1_restBound B v w = _ := if_pos c_2
    rw [hfn] at hQ
    exact hQ _ _ _ _ _ rfl hP hD hS dX1_restBound_18
  · refine lv_iload_n (pc := 7) hx hb dX1_restBound_7 rfl (lv_at hl 2 rfl) ?_
    refine lv_iconst (v := 0) (pc := 8) hx hb dX1_restBound_8 rfl ?_
    refine lv_iconst (v := 1) (pc := 9) hx hb dX1_restBound_9 rfl ?_
    obtain ⟨r3, er3⟩ : ∃ z : Int32, fX5_within w 0 1 = z := ⟨_, rfl⟩
    have hr3 := kX5_within l E w 0 1
    rw [er3] at hr3
    refine gcNi (pc := 10) (As := [.int w, .int 0, .int 1]) (rest := []) ⟨hx, hb, hml, hown, hts⟩ hr3 ⟨va_cnB 3 hts ggX1_restBound_X5_within rfl rfl rfl hK.2.2.1 (hts _ mm_X1_restBound_17) qnX5_within ⟨Nat.le_of_ble_eq_true rfl, Nat.le_of_ble_eq_true rfl⟩, hts _ mm_X1_restBound_16, trivial⟩ hK hP hD hS hA rfl hl.1 rfl (Nat.le_of_ble_eq_true rfl) dX1_restBound_10 ⟨Nat.zero_le _, Nat.zero_le _⟩ (fun H locs hP hD hS => ?_)
    refine lv_if_ne (tgt := 19) (pc := 13) hx hb dX1_restBound_13 (by decide) (fun c_4 => ?_) (fun c_4 => ?_)
    · refine lv_aload_n (pc := 19) hx hb dX1_restBound_19 rfl (lv_at hl 0 rfl) ?_
      refine g_get (v := .ref (a 1)) (pc := 20) hx hb hts ii_X1_restBound_X1 hown hK.1 hP 0 rfl rfl 0 (by decide) ⟨rfl, rfl, rfl⟩ mm_X1_restBound_2 rfl dX1_restBound_20 ?_
      refine lv_iload_n (pc := 23) hx hb dX1_restBound_23 rfl (lv_at hl 1 rfl) ?_
      refine lv_aload_n (pc := 24) hx hb dX1_restBound_24 rfl (lv_at hl 0 rfl) ?_
      refine g_get (v := .int (B.1 5)) (pc := 25) hx hb hts ii_X1_restBound_X1 hown hK.1 hP 0 rfl rfl 7 (by decide) ⟨rfl, rfl, rfl⟩ mm_X1_restBound_3 rfl dX1_restBound_25 ?_
      refine lv_isub (pc := 28) hx hb dX1_restBound_28 ?_
      obtain ⟨r5, er5⟩ : ∃ z : Int32, fX2_leastReaching B.2.1 (v - (B.1 5)) = z := ⟨_, rfl⟩
      have hr5 := kX2_leastReaching l E (a 1) (a 2) B.2.1 (v - (B.1 5))
      rw [er5] at hr5
      refine gcVi (pc := 29) (w1 := [(a 0, .inr (1, [.ref (a 1), .ref (a 3), .int (B.1 0), .int (B.1 1), .int (B.1 2), .int (B.1 3), .int (B.1 4), .int (B.1 5), .int (B.1 6), .int (B.1 7), .int (B.1 8), .int (B.1 9), .int (B.1 10), .int (B.1 11), .int (B.1 12)])), (a 1, .inr (2, [.ref (a 2)])), (a 2, .inl (eI E, 11, .inl B.2.1)), (a 3, .inr (0, [.ref (a 4), .ref (a 5)])), (a 4, .inl (eJ E, 22, .inr (.inl B.2.2.1))), (a 5, .inl (eI E, 22, .inl B.2.2.2))]) (pre := [(a 0, .inr (1, [.ref (a 1), .ref (a 3), .int (B.1 0), .int (B.1 1), .int (B.1 2), .int (B.1 3), .int (B.1 4), .int (B.1 5), .int (B.1 6), .int (B.1 7), .int (B.1 8), .int (B.1 9), .int (B.1 10), .int (B.1 11), .int (B.1 12)]))]) (post := [(a 3, .inr (0, [.ref (a 4), .ref (a 5)])), (a 4, .inl (eJ E, 22, .inr (.inl B.2.2.1))), (a 5, .inl (eI E, 22, .inl B.2.2.2))]) (As := [.int (v - (B.1 5))]) (rest := []) (q0 := 0) ⟨hx, hb, hml, hown, hts⟩ hr5 (cwV 1 hts gX1_restBound_X2_leastReaching rfl rfl rfl qvX2_leastReaching ⟨Nat.le_of_ble_eq_true rfl, Nat.le_of_ble_eq_true rfl⟩) hK hP hD hS hA rfl rfl rfl rfl rfl hl.1 rfl (Nat.le_of_ble_eq_true rfl) dX1_restBound_29 ⟨Nat.zero_le _, Nat.zero_le _⟩ (fun H locs hP hD hS => ?_)
      refine lv_istore_n (lv' := [(3, .int r5), (0, .ref (a 0)), (1, .int v), (2, .int w)]) (pc := 32) hx hb dX1_restBound_32 rfl hl (by decide) rfl (fun ls hl => ?_)
      refine lv_aload_n (pc := 33) hx hb dX1_restBound_33 rfl (lv_at hl 1 rfl) ?_
      refine g_get (v := .ref (a 1)) (pc := 34) hx hb hts ii_X1_restBound_X1 hown hK.1 hP 0 rfl rfl 0 (by decide) ⟨rfl, rfl, rfl⟩ mm_X1_restBound_2 rfl dX1_restBound_34 ?_
      refine lv_iload_n (pc := 37) hx hb dX1_restBound_37 rfl (lv_at hl 2 rfl) ?_
      refine lv_aload_n (pc := 38) hx hb dX1_restBound_38 rfl (lv_at hl 1 rfl) ?_
      refine g_get (v := .int (B.1 5)) (pc := 39) hx hb hts ii_X1_restBound_X1 hown hK.1 hP 0 rfl rfl 7 (by decide) ⟨rfl, rfl, rfl⟩ mm_X1_restBound_3 rfl dX1_restBound_39 ?_
      refine lv_iadd (pc := 42) hx hb dX1_restBound_42 ?_
      obtain ⟨r6, er6⟩ : ∃ z : Int32, fX2_greatestWithin B.2.1 (v + (B.1 5)) = z := ⟨_, rfl⟩
      have hr6 := kX2_greatestWithin l E (a 1) (a 2) B.2.1 (v + (B.1 5))
      rw [er6] at hr6
      refine gcVi (pc := 43) (w1 := [(a 0, .inr (1, [.ref (a 1), .ref (a 3), .int (B.1 0), .int (B.1 1), .int (B.1 2), .int (B.1 3), .int (B.1 4), .int (B.1 5), .int (B.1 6), .int (B.1 7), .int (B.1 8), .int (B.1 9), .int (B.1 10), .int (B.1 11), .int (B.1 12)])), (a 1, .inr (2, [.ref (a 2)])), (a 2, .inl (eI E, 11, .inl B.2.1)), (a 3, .inr (0, [.ref (a 4), .ref (a 5)])), (a 4, .inl (eJ E, 22, .inr (.inl B.2.2.1))), (a 5, .inl (eI E, 22, .inl B.2.2.2))]) (pre := [(a 0, .inr (1, [.ref (a 1), .ref (a 3), .int (B.1 0), .int (B.1 1), .int (B.1 2), .int (B.1 3), .int (B.1 4), .int (B.1 5), .int (B.1 6), .int (B.1 7), .int (B.1 8), .int (B.1 9), .int (B.1 10), .int (B.1 11), .int (B.1 12)]))]) (post := [(a 3, .inr (0, [.ref (a 4), .ref (a 5)])), (a 4, .inl (eJ E, 22, .inr (.inl B.2.2.1))), (a 5, .inl (eI E, 22, .inl B.2.2.2))]) (As := [.int (v + (B.1 5))]) (rest := []) (q0 := 0) ⟨hx, hb, hml, hown, hts⟩ hr6 (cwV 1 hts gX1_restBound_X2_greatestWithin rfl rfl rfl qvX2_greatestWithin ⟨Nat.le_of_ble_eq_true rfl, Nat.le_of_ble_eq_true rfl⟩) hK hP hD hS hA rfl rfl rfl rfl rfl hl.1 rfl (Nat.le_of_ble_eq_true rfl) dX1_restBound_43 ⟨Nat.zero_le _, Nat.zero_le _⟩ (fun H locs hP hD hS => ?_)
      refine lv_istore (lv' := [(4, .int r6), (3, .int r5), (0, .ref (a 0)), (1, .int v), (2, .int w)]) (pc := 46) hx hb dX1_restBound_46 hl (by decide) rfl (fun ls hl => ?_)
      refine lv_iload_n (pc := 48) hx hb dX1_restBound_48 rfl (lv_at hl 1 rfl) ?_
      refine lv_ldc (v := (-10000001)) (pc := 49) hx hb hown (hts _ mm_X1_restBound_4) dX1_restBound_49 ?_
      refine lv_icmp_eq (tgt := 61) (pc := 51) hx hb dX1_restBound_51 (by decide) (fun c_7 => ?_) (fun c_7 => ?_)
      · refine lv_iload_n (pc := 61) hx hb dX1_restBound_61 rfl (lv_at hl 4 rfl) ?_
        have J_10 : ∀ (H : Heap) (locs : List Loc) (ls : Array Slot) (x9 : Int32), (if w = 0 then r5 else r6) = x9 → va_P E.1 vwCl [(a 0, .inr (1, [.ref (a 1), .ref (a 3), .int (B.1 0), .int (B.1 1), .int (B.1 2), .int (B.1 3), .int (B.1 4), .int (B.1 5), .int (B.1 6), .int (B.1 7), .int (B.1 8), .int (B.1 9), .int (B.1 10), .int (B.1 11), .int (B.1 12)])), (a 1, .inr (2, [.ref (a 2)])), (a 2, .inl (eI E, 11, .inl B.2.1)), (a 3, .inr (0, [.ref (a 4), .ref (a 5)])), (a 4, .inl (eJ E, 22, .inr (.inl B.2.2.1))), (a 5, .inl (eI E, 22, .inl B.2.2.2))] H → va_D A [(a 0, .inr (1, [.ref (a 1), .ref (a 3), .int (B.1 0), .int (B.1 1), .int (B.1 2), .int (B.1 3), .int (B.1 4), .int (B.1 5), .int (B.1 6), .int (B.1 7), .int (B.1 8), .int (B.1 9), .int (B.1 10), .int (B.1 11), .int (B.1 12)])), (a 1, .inr (2, [.ref (a 2)])), (a 2, .inl (eI E, 11, .inl B.2.1)), (a 3, .inr (0, [.ref (a 4), .ref (a 5)])), (a 4, .inl (eJ E, 22, .inr (.inl B.2.2.1))), (a 5, .inl (eI E, 22, .inl B.2.2.2))] → va_S A s.heap H locs → lv_has ls 5 [(0, .ref (a 0)), (1, .int v), (2, .int w), (3, .int r5), (4, .int r6)] → W p l e rX1_restBound s m args below meth c H locs 0 0 Q (F0 m 71 ls [.int x9]) := by
          intro H locs ls x9 ex9 hP hD hS hl
          subst ex9
          subst er6
          subst er5
          subst er3
          subst er1
          have hfn : fX1_restBound B v w = _ := (if_neg c_2).trans ((if_neg c_4).trans (if_pos c_7))
          rw [hfn] at hQ
          exact hQ _ _ _ _ _ rfl hP hD hS dX1_restBound_71
        refine lv_if_ne (tgt := 69) (pc := 62) hx hb dX1_restBound_62 (by decide) (fun c_8 => ?_) (fun c_8 => ?_)
        · refine lv_iload (pc := 69) hx hb dX1_restBound_69 (lv_at hl 0 rfl) ?_
          exact J_10 _ _ _ _ (if_neg c_8) hP hD hS (lv_sub hl [2, 3, 4, 1, 0] rfl)
        · refine lv_iload_n (pc := 65) hx hb dX1_restBound_65 rfl (lv_at hl 1 rfl) ?_
          refine lv_goto (tgt := 71) (pc := 66) hx hb dX1_restBound_66 (by decide) ?_
          exact J_10 _ _ _ _ (if_pos c_8) hP hD hS (lv_sub hl [2, 3, 4, 1, 0] rfl)
      · refine lv_iload (pc := 54) hx hb dX1_restBound_54 (lv_at hl 0 rfl) ?_
        refine lv_ldc (v := (-10000001)) (pc := 56) hx hb hown (hts _ mm_X1_restBound_4) dX1_restBound_56 ?_
        refine lv_icmp_ne (tgt := 72) (pc := 58) hx hb dX1_restBound_58 (by decide) (fun c_11 => ?_) (fun c_11 => ?_)
        · refine lv_iload_n (pc := 72) hx hb dX1_restBound_72 rfl (lv_at hl 4 rfl) ?_
          have J_14 : ∀ (H : Heap) (locs : List Loc) (ls : Array Slot) (x13 : Int32), (if w = 0 then (let x14 : Int32 := (if r6 < r5 then r6 else r5); x14) else (let x13 : Int32 := (if r5 < r6 then r6 else r5); x13)) = x13 → va_P E.1 vwCl [(a 0, .inr (1, [.ref (a 1), .ref (a 3), .int (B.1 0), .int (B.1 1), .int (B.1 2), .int (B.1 3), .int (B.1 4), .int (B.1 5), .int (B.1 6), .int (B.1 7), .int (B.1 8), .int (B.1 9), .int (B.1 10), .int (B.1 11), .int (B.1 12)])), (a 1, .inr (2, [.ref (a 2)])), (a 2, .inl (eI E, 11, .inl B.2.1)), (a 3, .inr (0, [.ref (a 4), .ref (a 5)])), (a 4, .inl (eJ E, 22, .inr (.inl B.2.2.1))), (a 5, .inl (eI E, 22, .inl B.2.2.2))] H → va_D A [(a 0, .inr (1, [.ref (a 1), .ref (a 3), .int (B.1 0), .int (B.1 1), .int (B.1 2), .int (B.1 3), .int (B.1 4), .int (B.1 5), .int (B.1 6), .int (B.1 7), .int (B.1 8), .int (B.1 9), .int (B.1 10), .int (B.1 11), .int (B.1 12)])), (a 1, .inr (2, [.ref (a 2)])), (a 2, .inl (eI E, 11, .inl B.2.1)), (a 3, .inr (0, [.ref (a 4), .ref (a 5)])), (a 4, .inl (eJ E, 22, .inr (.inl B.2.2.1))), (a 5, .inl (eI E, 22, .inl B.2.2.2))] → va_S A s.heap H locs → lv_has ls 5 [(0, .ref (a 0)), (1, .int v), (2, .int w), (3, .int r5), (4, .int r6)] → W p l e rX1_restBound s m args below meth c H locs 0 0 Q (F0 m 91 ls [.int x13]) := by
            intro H locs ls x13 ex13 hP hD hS hl
            subst ex13
            subst er6
            subst er5
            subst er3
            subst er1
            have hfn : fX1_restBound B v w = _ := (if_neg c_2).trans ((if_neg c_4).trans ((if_neg c_7).trans (if_neg c_11)))
            rw [hfn] at hQ
            exact hQ _ _ _ _ _ rfl hP hD hS dX1_restBound_91
          refine lv_if_ne (tgt := 85) (pc := 73) hx hb dX1_restBound_73 (by decide) (fun c_12 => ?_) (fun c_12 => ?_)
          · refine lv_iload_n (pc := 85) hx hb dX1_restBound_85 rfl (lv_at hl 1 rfl) ?_
            refine lv_iload (pc := 86) hx hb dX1_restBound_86 (lv_at hl 0 rfl) ?_
            refine va_mmax (pc := 88) hx hb (hml.trans hl.1.symm) hown (hts _ mm_X1_restBound_9) (hts _ mm_X1_restBound_10) (hts _ mm_X1_restBound_7) (hts _ mm_X1_restBound_11) (Nat.le_of_ble_eq_true rfl) (Nat.le_of_ble_eq_true rfl) (Nat.zero_le _) (Nat.zero_le _) dX1_restBound_88 ?_
            refine g_topi (fun x13 ex13 => ?_)
            subst ex13
            exact J_14 _ _ _ _ (if_neg c_12) hP hD hS (lv_sub hl [2, 3, 4, 1, 0] rfl)
          · refine lv_iload_n (pc := 76) hx hb dX1_restBound_76 rfl (lv_at hl 1 rfl) ?_
            refine lv_iload (pc := 77) hx hb dX1_restBound_77 (lv_at hl 0 rfl) ?_
            refine va_mmin (pc := 79) hx hb (hml.trans hl.1.symm) hown (hts _ mm_X1_restBound_5) (hts _ mm_X1_restBound_6) (hts _ mm_X1_restBound_7) (hts _ mm_X1_restBound_8) (Nat.le_of_ble_eq_true rfl) (Nat.le_of_ble_eq_true rfl) (Nat.zero_le _) (Nat.zero_le _) dX1_restBound_79 ?_
            refine g_topi (fun x14 ex14 => ?_)
            refine lv_goto (tgt := 91) (pc := 82) hx hb dX1_restBound_82 (by decide) ?_
            subst ex14
            exact J_14 _ _ _ _ (if_pos c_12) hP hD hS (lv_sub hl [2, 3, 4, 1, 0] rfl)
        · refine lv_iload_n (pc := 61) hx hb dX1_restBound_61 rfl (lv_at hl 4 rfl) ?_
          have J_17 : ∀ (H : Heap) (locs : List Loc) (ls : Array Slot) (x16 : Int32), (if w = 0 then r5 else r6) = x16 → va_P E.1 vwCl [(a 0, .inr (1, [.ref (a 1), .ref (a 3), .int (B.1 0), .int (B.1 1), .int (B.1 2), .int (B.1 3), .int (B.1 4), .int (B.1 5), .int (B.1 6), .int (B.1 7), .int (B.1 8), .int (B.1 9), .int (B.1 10), .int (B.1 11), .int (B.1 12)])), (a 1, .inr (2, [.ref (a 2)])), (a 2, .inl (eI E, 11, .inl B.2.1)), (a 3, .inr (0, [.ref (a 4), .ref (a 5)])), (a 4, .inl (eJ E, 22, .inr (.inl B.2.2.1))), (a 5, .inl (eI E, 22, .inl B.2.2.2))] H → va_D A [(a 0, .inr (1, [.ref (a 1), .ref (a 3), .int (B.1 0), .int (B.1 1), .int (B.1 2), .int (B.1 3), .int (B.1 4), .int (B.1 5), .int (B.1 6), .int (B.1 7), .int (B.1 8), .int (B.1 9), .int (B.1 10), .int (B.1 11), .int (B.1 12)])), (a 1, .inr (2, [.ref (a 2)])), (a 2, .inl (eI E, 11, .inl B.2.1)), (a 3, .inr (0, [.ref (a 4), .ref (a 5)])), (a 4, .inl (eJ E, 22, .inr (.inl B.2.2.1))), (a 5, .inl (eI E, 22, .inl B.2.2.2))] → va_S A s.heap H locs → lv_has ls 5 [(0, .ref (a 0)), (1, .int v), (2, .int w), (3, .int r5), (4, .int r6)] → W p l e rX1_restBound s m args below meth c H locs 0 0 Q (F0 m 71 ls [.int x16]) := by
            intro H locs ls x16 ex16 hP hD hS hl
            subst ex16
            subst er6
            subst er5
            subst er3
            subst er1
            have hfn : fX1_restBound B v w = _ := (if_neg c_2).trans ((if_neg c_4).trans ((if_neg c_7).trans (if_pos c_11)))
            rw [hfn] at hQ
            exact hQ _ _ _ _ _ rfl hP hD hS dX1_restBound_71
          refine lv_if_ne (tgt := 69) (pc := 62) hx hb dX1_restBound_62 (by decide) (fun c_15 => ?_) (fun c_15 => ?_)
          · refine lv_iload (pc := 69) hx hb dX1_restBound_69 (lv_at hl 0 rfl) ?_
            exact J_17 _ _ _ _ (if_neg c_15) hP hD hS (lv_sub hl [2, 3, 4, 1, 0] rfl)
          · refine lv_iload_n (pc := 65) hx hb dX1_restBound_65 rfl (lv_at hl 1 rfl) ?_
            refine lv_goto (tgt := 71) (pc := 66) hx hb dX1_restBound_66 (by decide) ?_
            exact J_17 _ _ _ _ (if_pos c_15) hP hD hS (lv_sub hl [2, 3, 4, 1, 0] rfl)
    · refine lv_ldc (v := (-10000002)) (pc := 16) hx hb hown (hts _ mm_X1_restBound_1) dX1_restBound_16 ?_
      subst er3
      subst er1
      have hfn : fX1_restBound B v w = _ := (if_neg c_2).trans (if_pos c_4)
      rw [hfn] at hQ
      exact hQ _ _ _ _ _ rfl hP hD hS dX1_restBound_18

theorem nz_q {x : Int32} (h : ¬ x ≤ 0) : ¬ x = 0 := fun q => h (by rw [q]; decide)
theorem nz_d {x y : Int32} (h : y < x) : ¬ x - y = 0 := by
  intro q
  have h1 : x = y := by
    have h2 := congrArg (· + y) q
    simpa using h2
  rw [h1, Int32.lt_iff_toInt_lt] at h
  omega
theorem nz_s {x y : Int32} (h : ¬ fX5_within x 1 99 = 0) (hy : 0 ≤ y.toInt ∧ y.toInt ≤ 9) : ¬ x + y = 0 := by
  intro q
  have h1 := congrArg Int32.toInt q
  simp only [fX5_within, bz_0] at h
  simp only [Int32.le_iff_toInt_le, Int32.lt_iff_toInt_lt, ← Int32.toInt_inj, Int32.toInt_add, Int32.toInt_sub, Int32.toInt_mul, Int.bmod_def, Int32.reduceToInt] at h h1
  omega

def fX1_learnCapacity (B : Bat) (ra : Int32) (rb : Int32) : Bat :=
  let x1 : Int64 := ((B.1 6).toInt64) - (((B.1 4).toInt64) * ((B.1 7).toInt64))
  let x2 : Int64 := ((B.1 6).toInt64) + (((B.1 4).toInt64) * ((B.1 7).toInt64))
  let x3 : Int64 := (B.1 2).toInt64
  let x4 : Int64 := (B.1 3).toInt64
  let x6 : Int64 := (if x1 ≤ 0 then x3 else (if ((B.1 10) - ra) ≤ 0 then x3 else (let x7 : Int64 := (if ((1000 * x1) / (((B.1 10) - ra).toInt64)) < x3 then x3 else ((1000 * x1) / (((B.1 10) - ra).toInt64))); x7)))
  let x9 : Int64 := (if x2 ≤ 0 then x4 else (if ((B.1 9) - rb) ≤ 0 then x4 else (let x10 : Int32 := (B.1 9) - rb; (let x11 : Int64 := (if ((((1000 * x2) + x10.toInt64) - 1) / x10.toInt64) < x4 then ((((1000 * x2) + x10.toInt64) - 1) / x10.toInt64) else x4); x11))))
  if x6 ≤ x9 then
    ((upd (upd B.1 2 x6.toInt32) 3 x9.toInt32), B.2.1, B.2.2.1, B.2.2.2)
  else
    let x12 : Int32 := (B.1 11) + 1
    ((upd B.1 11 x12), B.2.1, B.2.2.1, B.2.2.2)
abbrev rX1_learnCapacity : Room := { frames := 1, cells := 0, slots := 0, locals := 15 }
theorem mm_X1_learnCapacity_1 : Cond.fieldLink RX1 61 "GaugeBounds$Battery" "drawn" "I" ∈ wsX1_learnCapacity := List.mem_of_getElem? (i := 1) rfl
theorem mm_X1_learnCapacity_2 : Cond.fieldLink RX1 35 "GaugeBounds$Battery" "offset" "I" ∈ wsX1_learnCapacity := List.mem_of_getElem? (i := 2) rfl
theorem mm_X1_learnCapacity_3 : Cond.fieldLink RX1 64 "GaugeBounds$Battery" "steps" "I" ∈ wsX1_learnCapacity := List.mem_of_getElem? (i := 3) rfl
theorem mm_X1_learnCapacity_4 : Cond.fieldLink RX1 29 "GaugeBounds$Battery" "leastCapacity" "I" ∈ wsX1_learnCapacity := List.mem_of_getElem? (i := 4) rfl
theorem mm_X1_learnCapacity_5 : Cond.fieldLink RX1 32 "GaugeBounds$Battery" "mostCapacity" "I" ∈ wsX1_learnCapacity := List.mem_of_getElem? (i := 5) rfl
theorem mm_X1_learnCapacity_6 : Cond.fieldLink RX1 45 "GaugeBounds$Battery" "lastB" "I" ∈ wsX1_learnCapacity := List.mem_of_getElem? (i := 6) rfl
theorem mm_X1_learnCapacity_7 : Cond.constantLong RX1 122 (1000) ∈ wsX1_learnCapacity := List.mem_of_getElem? (i := 7) rfl
theorem mm_X1_learnCapacity_8 : Cond.methodLink RX1 124 Lib.MathLoose.max_long.x ∈ wsX1_learnCapacity := List.mem_of_getElem? (i := 8) rfl
theorem mm_X1_learnCapacity_9 : Cond.static Lib.MathLoose.max_long.x ∈ wsX1_learnCapacity := List.mem_of_getElem? (i := 9) rfl
theorem mm_X1_learnCapacity_10 : Cond.initialized "java/lang/Math" ∈ wsX1_learnCapacity := List.mem_of_getElem? (i := 10) rfl
theorem mm_X1_learnCapacity_11 : Cond.code Lib.MathLoose.max_long.x Lib.MathLoose.max_long.code 4 (some .long) ∈ wsX1_learnCapacity := List.mem_of_getElem? (i := 11) rfl
theorem mm_X1_learnCapacity_12 : Cond.fieldLink RX1 42 "GaugeBounds$Battery" "lastA" "I" ∈ wsX1_learnCapacity := List.mem_of_getElem? (i := 12) rfl
theorem mm_X1_learnCapacity_13 : Cond.methodLink RX1 127 Lib.MathLoose.min_long.x ∈ wsX1_learnCapacity := List.mem_of_getElem? (i := 13) rfl
theorem mm_X1_learnCapacity_14 : Cond.static Lib.MathLoose.min_long.x ∈ wsX1_learnCapacity := List.mem_of_getElem? (i := 14) rfl
theorem mm_X1_learnCapacity_15 : Cond.code Lib.MathLoose.min_long.x Lib.MathLoose.min_long.code 4 (some .long) ∈ wsX1_learnCapacity := List.mem_of_getElem? (i := 15) rfl
theorem mm_X1_learnCapacity_16 : Cond.fieldLink RX1 70 "GaugeBounds$Battery" "clashes" "I" ∈ wsX1_learnCapacity := List.mem_of_getElem? (i := 16) rfl
theorem ii_X1_learnCapacity_X1 : ∀ w ∈ wsX10, w ∈ wsX1_learnCapacity := fun _ h => List.mem_cons_of_mem _ (List.mem_append_right _ (h))
theorem qvX1_learnCapacity : yX1_learnCapacity.cls = RX1 ∧ yX1_learnCapacity.cls ≠ "java/lang/invoke/MethodHandle" ∧ yX1_learnCapacity.cls ≠ "java/lang/invoke/VarHandle" ∧ (parseMethodDescriptor yX1_learnCapacity.desc).map (fun d => d.parameters.length) = some 2 := by decide +kernel
set_option maxHeartbeats 4000000 in
set_option maxRecDepth 100000 in
theorem kX1_learnCapacity (l : Launch) (E : gEnv) (a : Nat → Nat) (B : Bat) (ra : Int32) (rb : Int32) : gMv l E yX1_learnCapacity wsX1_learnCapacity rX1_learnCapacity [.ref (a 0), .int ra, .int rb] (wB E a B) (wB E a (fX1_learnCapacity B ra rb)) := by
  refine gMv_of (cc := cX1_learnCapacity) (maxL := 12) (ret := none) (by decide) rfl rfl (Nat.le_of_ble_eq_true rfl) ?_
  intro p e s m args below meth c A Q ls hB hQ
  obtain ⟨hx, hb, hml, hown, hts, hK, hP, hD, hA, hS, hl⟩ := hB
  have hown : s.vm.findClass RX1 = some m.cls := hown
  have hP : va_P E.1 vwCl [(a 0, .inr (1, [.ref (a 1), .ref (a 3), .int (B.1 0), .int (B.1 1), .int (B.1 2), .int (B.1 3), .int (B.1 4), .int (B.1 5), .int (B.1 6), .int (B.1 7), .int (B.1 8), .int (B.1 9), .int (B.1 10), .int (B.1 11), .int (B.1 12)])), (a 1, .inr (2, [.ref (a 2)])), (a 2, .inl (eI E, 11, .inl B.2.1)), (a 3, .inr (0, [.ref (a 4), .ref (a 5)])), (a 4, .inl (eJ E, 22, .inr (.inl B.2.2.1))), (a 5, .inl (eI E, 22, .inl B.2.2.2))] s.heap := hP
  have hD : va_D A [(a 0, .inr (1, [.ref (a 1), .ref (a 3), .int (B.1 0), .int (B.1 1), .int (B.1 2), .int (B.1 3), .int (B.1 4), .int (B.1 5), .int (B.1 6), .int (B.1 7), .int (B.1 8), .int (B.1 9), .int (B.1 10), .int (B.1 11), .int (B.1 12)])), (a 1, .inr (2, [.ref (a 2)])), (a 2, .inl (eI E, 11, .inl B.2.1)), (a 3, .inr (0, [.ref (a 4), .ref (a 5)])), (a 4, .inl (eJ E, 22, .inr (.inl B.2.2.1))), (a 5, .inl (eI E, 22, .inl B.2.2.2))] := hD
  have hl : lv_has ls 12 [(0, .ref (a 0)), (1, .int ra), (2, .int rb)] := hl
  refine lv_aload_n (pc := 0) hx hb dX1_learnCapacity_0 rfl (lv_at hl 0 rfl) ?_
  refine g_get (v := .int (B.1 6)) (pc := 1) hx hb hts ii_X1_learnCapacity_X1 hown hK.1 hP 0 rfl rfl 8 (by decide) ⟨rfl, rfl, rfl⟩ mm_X1_learnCapacity_1 rfl dX1_learnCapacity_1 ?_
  refine lv_i2l (v := (B.1 6).toInt64) (pc := 4) hx hb dX1_learnCapacity_4 rfl ?_
  refine lv_aload_n (pc := 5) hx hb dX1_learnCapacity_5 rfl (lv_at hl 0 rfl) ?_
  refine g_get (v := .int (B.1 4)) (pc := 6) hx hb hts ii_X1_learnCapacity_X1 hown hK.1 hP 0 rfl rfl 6 (by decide) ⟨rfl, rfl, rfl⟩ mm_X1_learnCapacity_2 rfl dX1_learnCapacity_6 ?_
  refine lv_i2l (v := (B.1 4).toInt64) (pc := 9) hx hb dX1_learnCapacity_9 rfl ?_
  refine lv_aload_n (pc := 10) hx hb dX1_learnCapacity_10 rfl (lv_at hl 0 rfl) ?_
  refine g_get (v := .int (B.1 7)) (pc := 11) hx hb hts ii_X1_learnCapacity_X1 hown hK.1 hP 0 rfl rfl 9 (by decide) ⟨rfl, rfl, rfl⟩ mm_X1_learnCapacity_3 rfl dX1_learnCapacity_11 ?_
  refine lv_i2l (v := (B.1 7).toInt64) (pc := 14) hx hb dX1_learnCapacity_14 rfl ?_
  refine lv_lmul (pc := 15) hx hb dX1_learnCapacity_15 ?_
  refine lv_lsub (pc := 16) hx hb dX1_learnCapacity_16 ?_
  refine g_topl (fun x1 ex1 => ?_)
  refine lv_lstore_n (lv' := [(3, .long x1), (0, .ref (a 0)), (1, .int ra), (2, .int rb)]) (pc := 17) hx hb dX1_learnCapacity_17 rfl hl (by decide) rfl (fun ls hl => ?_)
  refine lv_aload_n (pc := 18) hx hb dX1_learnCapacity_18 rfl (lv_at hl 1 rfl) ?_
  refine g_get (v := .int (B.1 6)) (pc := 19) hx hb hts ii_X1_learnCapacity_X1 hown hK.1 hP 0 rfl rfl 8 (by decide) ⟨rfl, rfl, rfl⟩ mm_X1_learnCapacity_1 rfl dX1_learnCapacity_19 ?_
  refine lv_i2l (v := (B.1 6).toInt64) (pc := 22) hx hb dX1_learnCapacity_22 rfl ?_
  refine lv_aload_n (pc := 23) hx hb dX1_learnCapacity_23 rfl (lv_at hl 1 rfl) ?_
  refine g_get (v := .int (B.1 4)) (pc := 24) hx hb hts ii_X1_learnCapacity_X1 hown hK.1 hP 0 rfl rfl 6 (by decide) ⟨rfl, rfl, rfl⟩ mm_X1_learnCapacity_2 rfl dX1_learnCapacity_24 ?_
  refine lv_i2l (v := (B.1 4).toInt64) (pc := 27) hx hb dX1_learnCapacity_27 rfl ?_
  refine lv_aload_n (pc := 28) hx hb dX1_learnCapacity_28 rfl (lv_at hl 1 rfl) ?_
  refine g_get (v := .int (B.1 7)) (pc := 29) hx hb hts ii_X1_learnCapacity_X1 hown hK.1 hP 0 rfl rfl 9 (by decide) ⟨rfl, rfl, rfl⟩ mm_X1_learnCapacity_3 rfl dX1_learnCapacity_29 ?_
  refine lv_i2l (v := (B.1 7).toInt64) (pc := 32) hx hb dX1_learnCapacity_32 rfl ?_
  refine lv_lmul (pc := 33) hx hb dX1_learnCapacity_33 ?_
  refine lv_ladd (pc := 34) hx hb dX1_learnCapacity_34 ?_
  refine g_topl (fun x2 ex2 => ?_)
  refine lv_lstore (lv' := [(5, .long x2), (3, .long x1), (0, .ref (a 0)), (1, .int ra), (2, .int rb)]) (pc := 35) hx hb dX1_learnCapacity_35 hl (by decide) rfl (fun ls hl => ?_)
  refine lv_aload_n (pc := 37) hx hb dX1_learnCapacity_37 rfl (lv_at hl 2 rfl) ?_
  refine g_get (v := .int (B.1 2)) (pc := 38) hx hb hts ii_X1_learnCapacity_X1 hown hK.1 hP 0 rfl rfl 4 (by decide) ⟨rfl, rfl, rfl⟩ mm_X1_learnCapacity_4 rfl dX1_learnCapacity_38 ?_
  refine lv_i2l (v := (B.1 2).toInt64) (pc := 41) hx hb dX1_learnCapacity_41 rfl ?_
  refine g_topl (fun x3 ex3 => ?_)
  refine lv_lstore (lv' := [(7, .long x3), (5, .long x2), (3, .long x1), (0, .ref (a 0)), (1, .int ra), (2, .int rb)]) (pc := 42) hx hb dX1_learnCapacity_42 hl (by decide) rfl (fun ls hl => ?_)
  refine lv_aload_n (pc := 44) hx hb dX1_learnCapacity_44 rfl (lv_at hl 3 rfl) ?_
  refine g_get (v := .int (B.1 3)) (pc := 45) hx hb hts ii_X1_learnCapacity_X1 hown hK.1 hP 0 rfl rfl 5 (by decide) ⟨rfl, rfl, rfl⟩ mm_X1_learnCapacity_5 rfl dX1_learnCapacity_45 ?_
  refine lv_i2l (v := (B.1 3).toInt64) (pc := 48) hx hb dX1_learnCapacity_48 rfl ?_
  refine g_topl (fun x4 ex4 => ?_)
  refine lv_lstore (lv' := [(9, .long x4), (7, .long x3), (5, .long x2), (3, .long x1), (0, .ref (a 0)), (1, .int ra), (2, .int rb)]) (pc := 49) hx hb dX1_learnCapacity_49 hl (by decide) rfl (fun ls hl => ?_)
  refine lv_lload_n (pc := 51) hx hb dX1_learnCapacity_51 rfl (lv_at hl 3 rfl) ?_
  refine lv_lconst (v := 0) (pc := 52) hx hb dX1_learnCapacity_52 rfl ?_
  have J_7 : ∀ (H : Heap) (locs : List Loc) (ls : Array Slot) (x6 : Int64), (if x1 ≤ 0 then x3 else (if ((B.1 10) - ra) ≤ 0 then x3 else (let x7 : Int64 := (if ((1000 * x1) / (((B.1 10) - ra).toInt64)) < x3 then x3 else ((1000 * x1) / (((B.1 10) - ra).toInt64))); x7))) = x6 → va_P E.1 vwCl [(a 0, .inr (1, [.ref (a 1), .ref (a 3), .int (B.1 0), .int (B.1 1), .int (B.1 2), .int (B.1 3), .int (B.1 4), .int (B.1 5), .int (B.1 6), .int (B.1 7), .int (B.1 8), .int (B.1 9), .int (B.1 10), .int (B.1 11), .int (B.1 12)])), (a 1, .inr (2, [.ref (a 2)])), (a 2, .inl (eI E, 11, .inl B.2.1)), (a 3, .inr (0, [.ref (a 4), .ref (a 5)])), (a 4, .inl (eJ E, 22, .inr (.inl B.2.2.1))), (a 5, .inl (eI E, 22, .inl B.2.2.2))] H → va_D A [(a 0, .inr (1, [.ref (a 1), .ref (a 3), .int (B.1 0), .int (B.1 1), .int (B.1 2), .int (B.1 3), .int (B.1 4), .int (B.1 5), .int (B.1 6), .int (B.1 7), .int (B.1 8), .int (B.1 9), .int (B.1 10), .int (B.1 11), .int (B.1 12)])), (a 1, .inr (2, [.ref (a 2)])), (a 2, .inl (eI E, 11, .inl B.2.1)), (a 3, .inr (0, [.ref (a 4), .ref (a 5)])), (a 4, .inl (eJ E, 22, .inr (.inl B.2.2.1))), (a 5, .inl (eI E, 22, .inl B.2.2.2))] → va_S A s.heap H locs → lv_has ls 12 [(0, .ref (a 0)), (1, .int ra), (2, .int rb), (3, .long x1), (5, .long x2), (7, .long x6), (9, .long x4)] → W p l e rX1_learnCapacity s m args below meth c H locs 0 0 Q (F0 m 86 ls []) := by
    intro H locs ls x6 ex6 hP hD hS hl
    refine lv_lload (pc := 86) hx hb dX1_learnCapacity_86 (lv_at hl 4 rfl) ?_
    refine lv_lconst (v := 0) (pc := 88) hx hb dX1_learnCapacity_88 rfl ?_
    have J_10 : ∀ (H : Heap) (locs : List Loc) (ls : Array Slot) (x9 : Int64), (if x2 ≤ 0 then x4 else (if ((B.1 9) - rb) ≤ 0 then x4 else (let x10 : Int32 := (B.1 9) - rb; (let x11 : Int64 := (if ((((1000 * x2) + x10.toInt64) - 1) / x10.toInt64) < x4 then ((((1000 * x2) + x10.toInt64) - 1) / x10.toInt64) else x4); x11)))) = x9 → va_P E.1 vwCl [(a 0, .inr (1, [.ref (a 1), .ref (a 3), .int (B.1 0), .int (B.1 1), .int (B.1 2), .int (B.1 3), .int (B.1 4), .int (B.1 5), .int (B.1 6), .int (B.1 7), .int (B.1 8), .int (B.1 9), .int (B.1 10), .int (B.1 11), .int (B.1 12)])), (a 1, .inr (2, [.ref (a 2)])), (a 2, .inl (eI E, 11, .inl B.2.1)), (a 3, .inr (0, [.ref (a 4), .ref (a 5)])), (a 4, .inl (eJ E, 22, .inr (.inl B.2.2.1))), (a 5, .inl (eI E, 22, .inl B.2.2.2))] H → va_D A [(a 0, .inr (1, [.ref (a 1), .ref (a 3), .int (B.1 0), .int (B.1 1), .int (B.1 2), .int (B.1 3), .int (B.1 4), .int (B.1 5), .int (B.1 6), .int (B.1 7), .int (B.1 8), .int (B.1 9), .int (B.1 10), .int (B.1 11), .int (B.1 12)])), (a 1, .inr (2, [.ref (a 2)])), (a 2, .inl (eI E, 11, .inl B.2.1)), (a 3, .inr (0, [.ref (a 4), .ref (a 5)])), (a 4, .inl (eJ E, 22, .inr (.inl B.2.2.1))), (a 5, .inl (eI E, 22, .inl B.2.2.2))] → va_S A s.heap H locs → lv_has ls 12 [(0, .ref (a 0)), (1, .int ra), (2, .int rb), (3, .long x1), (5, .long x2), (7, .long x6), (9, .long x9)] → W p l e rX1_learnCapacity s m args below meth c H locs 0 0 Q (F0 m 133 ls []) := by
      intro H locs ls x9 ex9 hP hD hS hl
      refine lv_lload (pc := 133) hx hb dX1_learnCapacity_133 (lv_at hl 5 rfl) ?_
      refine lv_lload (pc := 135) hx hb dX1_learnCapacity_135 (lv_at hl 6 rfl) ?_
      refine gl_le (tgt := 152) (pc := 137) hx hb dX1_learnCapacity_137 dX1_learnCapacity_138 rfl (fun c_11 => ?_) (fun c_11 => ?_)
      · refine lv_aload_n (pc := 152) hx hb dX1_learnCapacity_152 rfl (lv_at hl 0 rfl) ?_
        refine lv_lload (pc := 153) hx hb dX1_learnCapacity_153 (lv_at hl 5 rfl) ?_
        refine lv_l2i (v := x6.toInt32) (pc := 155) hx hb dX1_learnCapacity_155 rfl ?_
        refine g_put (w1 := [(a 0, .inr (1, [.ref (a 1), .ref (a 3), .int (B.1 0), .int (B.1 1), .int x6.toInt32, .int (B.1 3), .int (B.1 4), .int (B.1 5), .int (B.1 6), .int (B.1 7), .int (B.1 8), .int (B.1 9), .int (B.1 10), .int (B.1 11), .int (B.1 12)])), (a 1, .inr (2, [.ref (a 2)])), (a 2, .inl (eI E, 11, .inl B.2.1)), (a 3, .inr (0, [.ref (a 4), .ref (a 5)])), (a 4, .inl (eJ E, 22, .inr (.inl B.2.2.1))), (a 5, .inl (eI E, 22, .inl B.2.2.2))]) (pc := 156) hx hb hts ii_X1_learnCapacity_X1 tyX1 tyX1_ok nmX1 hown hK.1 hP hD hS 0 rfl rfl 4 (by decide) ⟨rfl, rfl, rfl⟩ mm_X1_learnCapacity_4 rfl rfl rfl rfl (Nat.le_of_ble_eq_true rfl) rfl dX1_learnCapacity_156 (fun H locs hP hD hS => ?_)
        refine lv_aload_n (pc := 159) hx hb dX1_learnCapacity_159 rfl (lv_at hl 0 rfl) ?_
        refine lv_lload (pc := 160) hx hb dX1_learnCapacity_160 (lv_at hl 6 rfl) ?_
        refine lv_l2i (v := x9.toInt32) (pc := 162) hx hb dX1_learnCapacity_162 rfl ?_
        refine g_put (w1 := [(a 0, .inr (1, [.ref (a 1), .ref (a 3), .int (B.1 0), .int (B.1 1), .int x6.toInt32, .int x9.toInt32, .int (B.1 4), .int (B.1 5), .int (B.1 6), .int (B.1 7), .int (B.1 8), .int (B.1 9), .int (B.1 10), .int (B.1 11), .int (B.1 12)])), (a 1, .inr (2, [.ref (a 2)])), (a 2, .inl (eI E, 11, .inl B.2.1)), (a 3, .inr (0, [.ref (a 4), .ref (a 5)])), (a 4, .inl (eJ E, 22, .inr (.inl B.2.2.1))), (a 5, .inl (eI E, 22, .inl B.2.2.2))]) (pc := 163) hx hb hts ii_X1_learnCapacity_X1 tyX1 tyX1_ok nmX1 hown hK.1 hP hD hS 0 rfl rfl 5 (by decide) ⟨rfl, rfl, rfl⟩ mm_X1_learnCapacity_5 rfl rfl rfl rfl (Nat.le_of_ble_eq_true rfl) rfl dX1_learnCapacity_163 (fun H locs hP hD hS => ?_)
        subst ex9
        subst ex6
        subst ex4
        subst ex3
        subst ex2
        subst ex1
        have hfn : fX1_learnCapacity B ra rb = _ := if_pos c_11
        rw [hfn] at hQ
        exact hQ _ _ _ _ hP hD hS dX1_learnCapacity_166
      · refine lv_aload_n (pc := 141) hx hb dX1_learnCapacity_141 rfl (lv_at hl 0 rfl) ?_
        refine lv_dup (pc := 142) hx hb dX1_learnCapacity_142 rfl ?_
        refine g_get (v := .int (B.1 11)) (pc := 143) hx hb hts ii_X1_learnCapacity_X1 hown hK.1 hP 0 rfl rfl 13 (by decide) ⟨rfl, rfl, rfl⟩ mm_X1_learnCapacity_16 rfl dX1_learnCapacity_143 ?_
        refine lv_iconst (v := 1) (pc := 146) hx hb dX1_learnCapacity_146 rfl ?_
        refine lv_iadd (pc := 147) hx hb dX1_learnCapacity_147 ?_
        refine g_topi (fun x12 ex12 => ?_)
        refine g_put (w1 := [(a 0, .inr (1, [.ref (a 1), .ref (a 3), .int (B.1 0), .int (B.1 1), .int (B.1 2), .int (B.1 3), .int (B.1 4), .int (B.1 5), .int (B.1 6), .int (B.1 7), .int (B.1 8), .int (B.1 9), .int (B.1 10), .int x12, .int (B.1 12)])), (a 1, .inr (2, [.ref (a 2)])), (a 2, .inl (eI E, 11, .inl B.2.1)), (a 3, .inr (0, [.ref (a 4), .ref (a 5)])), (a 4, .inl (eJ E, 22, .inr (.inl B.2.2.1))), (a 5, .inl (eI E, 22, .inl B.2.2.2))]) (pc := 148) hx hb hts ii_X1_learnCapacity_X1 tyX1 tyX1_ok nmX1 hown hK.1 hP hD hS 0 rfl rfl 13 (by decide) ⟨rfl, rfl, rfl⟩ mm_X1_learnCapacity_16 rfl rfl rfl rfl (Nat.le_of_ble_eq_true rfl) rfl dX1_learnCapacity_148 (fun H locs hP hD hS => ?_)
        subst ex12
        subst ex9
        subst ex6
        subst ex4
        subst ex3
        subst ex2
        subst ex1
        have hfn : fX1_learnCapacity B ra rb = _ := if_neg c_11
        rw [hfn] at hQ
        exact hQ _ _ _ _ hP hD hS dX1_learnCapacity_151
    refine gl_le (tgt := 133) (pc := 89) hx hb dX1_learnCapacity_89 dX1_learnCapacity_90 rfl (fun c_8 => ?_) (fun c_8 => ?_)
    · exact J_10 _ _ _ _ (if_pos c_8) hP hD hS (lv_sub hl [0, 1, 2, 3, 4, 5, 6] rfl)
    · refine lv_aload_n (pc := 93) hx hb dX1_learnCapacity_93 rfl (lv_at hl 0 rfl) ?_
      refine g_get (v := .int (B.1 9)) (pc := 94) hx hb hts ii_X1_learnCapacity_X1 hown hK.1 hP 0 rfl rfl 11 (by decide) ⟨rfl, rfl, rfl⟩ mm_X1_learnCapacity_12 rfl dX1_learnCapacity_94 ?_
      refine lv_iload_n (pc := 97) hx hb dX1_learnCapacity_97 rfl (lv_at hl 2 rfl) ?_
      refine lv_isub (pc := 98) hx hb dX1_learnCapacity_98 ?_
      refine lv_if_le (tgt := 133) (pc := 99) hx hb dX1_learnCapacity_99 (by decide) (fun c_9 => ?_) (fun c_9 => ?_)
      · exact J_10 _ _ _ _ ((if_neg c_8).trans (if_pos c_9)) hP hD hS (lv_sub hl [0, 1, 2, 3, 4, 5, 6] rfl)
      · refine lv_aload_n (pc := 102) hx hb dX1_learnCapacity_102 rfl (lv_at hl 0 rfl) ?_
        refine g_get (v := .int (B.1 9)) (pc := 103) hx hb hts ii_X1_learnCapacity_X1 hown hK.1 hP 0 rfl rfl 11 (by decide) ⟨rfl, rfl, rfl⟩ mm_X1_learnCapacity_12 rfl dX1_learnCapacity_103 ?_
        refine lv_iload_n (pc := 106) hx hb dX1_learnCapacity_106 rfl (lv_at hl 2 rfl) ?_
        refine lv_isub (pc := 107) hx hb dX1_learnCapacity_107 ?_
        refine g_topi (fun x10 ex10 => ?_)
        refine lv_istore (lv' := [(11, .int x10), (0, .ref (a 0)), (1, .int ra), (2, .int rb), (3, .long x1), (5, .long x2), (7, .long x6), (9, .long x4)]) (pc := 108) hx hb dX1_learnCapacity_108 hl (by decide) rfl (fun ls hl => ?_)
        refine lv_lload (pc := 110) hx hb dX1_learnCapacity_110 (lv_at hl 7 rfl) ?_
        refine lv_ldc2 (v := (1000)) (pc := 112) hx hb hown (hts _ mm_X1_learnCapacity_7) dX1_learnCapacity_112 ?_
        refine lv_lload (pc := 115) hx hb dX1_learnCapacity_115 (lv_at hl 5 rfl) ?_
        refine lv_lmul (pc := 117) hx hb dX1_learnCapacity_117 ?_
        refine lv_iload (pc := 118) hx hb dX1_learnCapacity_118 (lv_at hl 0 rfl) ?_
        refine lv_i2l (v := x10.toInt64) (pc := 120) hx hb dX1_learnCapacity_120 rfl ?_
        refine lv_ladd (pc := 121) hx hb dX1_learnCapacity_121 ?_
        refine lv_lconst (v := 1) (pc := 122) hx hb dX1_learnCapacity_122 rfl ?_
        refine lv_lsub (pc := 123) hx hb dX1_learnCapacity_123 ?_
        refine lv_iload (pc := 124) hx hb dX1_learnCapacity_124 (lv_at hl 0 rfl) ?_
        refine lv_i2l (v := x10.toInt64) (pc := 126) hx hb dX1_learnCapacity_126 rfl ?_
        refine lv_ldiv (pc := 127) hx hb dX1_learnCapacity_127 (by subst_vars; exact nz_l (nz_q c_9)) ?_
        refine va_mmin_long (pc := 128) hx hb (hml.trans hl.1.symm) hown (hts _ mm_X1_learnCapacity_13) (hts _ mm_X1_learnCapacity_14) (hts _ mm_X1_learnCapacity_10) (hts _ mm_X1_learnCapacity_15) (Nat.le_of_ble_eq_true rfl) (Nat.le_of_ble_eq_true rfl) (Nat.zero_le _) (Nat.zero_le _) dX1_learnCapacity_128 ?_
        refine g_topl (fun x11 ex11 => ?_)
        refine lv_lstore (lv' := [(9, .long x11), (11, .int x10), (0, .ref (a 0)), (1, .int ra), (2, .int rb), (3, .long x1), (5, .long x2), (7, .long x6)]) (pc := 131) hx hb dX1_learnCapacity_131 hl (by decide) rfl (fun ls hl => ?_)
        subst ex11
        subst ex10
        exact J_10 _ _ _ _ ((if_neg c_8).trans (if_neg c_9)) hP hD hS (lv_sub hl [2, 3, 4, 5, 6, 7, 0] rfl)
  refine gl_le (tgt := 86) (pc := 53) hx hb dX1_learnCapacity_53 dX1_learnCapacity_54 rfl (fun c_5 => ?_) (fun c_5 => ?_)
  · exact J_7 _ _ _ _ (if_pos c_5) hP hD hS (lv_sub hl [4, 5, 6, 3, 2, 1, 0] rfl)
  · refine lv_aload_n (pc := 57) hx hb dX1_learnCapacity_57 rfl (lv_at hl 4 rfl) ?_
    refine g_get (v := .int (B.1 10)) (pc := 58) hx hb hts ii_X1_learnCapacity_X1 hown hK.1 hP 0 rfl rfl 12 (by decide) ⟨rfl, rfl, rfl⟩ mm_X1_learnCapacity_6 rfl dX1_learnCapacity_58 ?_
    refine lv_iload_n (pc := 61) hx hb dX1_learnCapacity_61 rfl (lv_at hl 5 rfl) ?_
    refine lv_isub (pc := 62) hx hb dX1_learnCapacity_62 ?_
    refine lv_if_le (tgt := 86) (pc := 63) hx hb dX1_learnCapacity_63 (by decide) (fun c_6 => ?_) (fun c_6 => ?_)
    · exact J_7 _ _ _ _ ((if_neg c_5).trans (if_pos c_6)) hP hD hS (lv_sub hl [4, 5, 6, 3, 2, 1, 0] rfl)
    · refine lv_lload (pc := 66) hx hb dX1_learnCapacity_66 (lv_at hl 1 rfl) ?_
      refine lv_ldc2 (v := (1000)) (pc := 68) hx hb hown (hts _ mm_X1_learnCapacity_7) dX1_learnCapacity_68 ?_
      refine lv_lload_n (pc := 71) hx hb dX1_learnCapacity_71 rfl (lv_at hl 3 rfl) ?_
      refine lv_lmul (pc := 72) hx hb dX1_learnCapacity_72 ?_
      refine lv_aload_n (pc := 73) hx hb dX1_learnCapacity_73 rfl (lv_at hl 4 rfl) ?_
      refine g_get (v := .int (B.1 10)) (pc := 74) hx hb hts ii_X1_learnCapacity_X1 hown hK.1 hP 0 rfl rfl 12 (by decide) ⟨rfl, rfl, rfl⟩ mm_X1_learnCapacity_6 rfl dX1_learnCapacity_74 ?_
      refine lv_iload_n (pc := 77) hx hb dX1_learnCapacity_77 rfl (lv_at hl 5 rfl) ?_
      refine lv_isub (pc := 78) hx hb dX1_learnCapacity_78 ?_
      refine lv_i2l (v := ((B.1 10) - ra).toInt64) (pc := 79) hx hb dX1_learnCapacity_79 rfl ?_
      refine lv_ldiv (pc := 80) hx hb dX1_learnCapacity_80 (by subst_vars; exact nz_l (nz_q c_6)) ?_
      refine va_mmax_long (pc := 81) hx hb (hml.trans hl.1.symm) hown (hts _ mm_X1_learnCapacity_8) (hts _ mm_X1_learnCapacity_9) (hts _ mm_X1_learnCapacity_10) (hts _ mm_X1_learnCapacity_11) (Nat.le_of_ble_eq_true rfl) (Nat.le_of_ble_eq_true rfl) (Nat.zero_le _) (Nat.zero_le _) dX1_learnCapacity_81 ?_
      refine g_topl (fun x7 ex7 => ?_)
      refine lv_lstore (lv' := [(7, .long x7), (9, .long x4), (5, .long x2), (3, .long x1), (0, .ref (a 0)), (1, .int ra), (2, .int rb)]) (pc := 84) hx hb dX1_learnCapacity_84 hl (by decide) rfl (fun ls hl => ?_)
      subst ex7
      exact J_7 _ _ _ _ ((if_neg c_5).trans (if_neg c_6)) hP hD hS (lv_sub hl [4, 5, 6, 3, 2, 0, 1] rfl)

def fX1_narrowCharge (B : Bat) (ra : Int32) (rb : Int32) : Bat :=
  let x1 : Int32 := (if (B.1 0) < ((ra * (B.1 2)) / 1000) then ((ra * (B.1 2)) / 1000) else (B.1 0))
  let x2 : Int32 := (if ((((rb * (B.1 3)) + 1000) - 1) / 1000) < (B.1 1) then ((((rb * (B.1 3)) + 1000) - 1) / 1000) else (B.1 1))
  if x1 ≤ x2 then
    ((upd (upd B.1 0 x1) 1 x2), B.2.1, B.2.2.1, B.2.2.2)
  else
    let x4 : Int32 := (B.1 11) + 1
    ((upd B.1 11 x4), B.2.1, B.2.2.1, B.2.2.2)
abbrev rX1_narrowCharge : Room := { frames := 1, cells := 0, slots := 0, locals := 13 }
theorem mm_X1_narrowCharge_1 : Cond.fieldLink RX1 58 "GaugeBounds$Battery" "low" "I" ∈ wsX1_narrowCharge := List.mem_of_getElem? (i := 1) rfl
theorem mm_X1_narrowCharge_2 : Cond.fieldLink RX1 29 "GaugeBounds$Battery" "leastCapacity" "I" ∈ wsX1_narrowCharge := List.mem_of_getElem? (i := 2) rfl
theorem mm_X1_narrowCharge_3 : Cond.methodLink RX1 89 Lib.Math.max.name ∈ wsX1_narrowCharge := List.mem_of_getElem? (i := 3) rfl
theorem mm_X1_narrowCharge_4 : Cond.static Lib.Math.max.name ∈ wsX1_narrowCharge := List.mem_of_getElem? (i := 4) rfl
theorem mm_X1_narrowCharge_5 : Cond.initialized "java/lang/Math" ∈ wsX1_narrowCharge := List.mem_of_getElem? (i := 5) rfl
theorem mm_X1_narrowCharge_6 : Cond.code Lib.Math.max.name Lib.Math.max.code 2 (some .int) ∈ wsX1_narrowCharge := List.mem_of_getElem? (i := 6) rfl
theorem mm_X1_narrowCharge_7 : Cond.fieldLink RX1 25 "GaugeBounds$Battery" "high" "I" ∈ wsX1_narrowCharge := List.mem_of_getElem? (i := 7) rfl
theorem mm_X1_narrowCharge_8 : Cond.fieldLink RX1 32 "GaugeBounds$Battery" "mostCapacity" "I" ∈ wsX1_narrowCharge := List.mem_of_getElem? (i := 8) rfl
theorem mm_X1_narrowCharge_9 : Cond.methodLink RX1 94 Lib.Math.min.name ∈ wsX1_narrowCharge := List.mem_of_getElem? (i := 9) rfl
theorem mm_X1_narrowCharge_10 : Cond.static Lib.Math.min.name ∈ wsX1_narrowCharge := List.mem_of_getElem? (i := 10) rfl
theorem mm_X1_narrowCharge_11 : Cond.code Lib.Math.min.name Lib.Math.min.code 2 (some .int) ∈ wsX1_narrowCharge := List.mem_of_getElem? (i := 11) rfl
theorem mm_X1_narrowCharge_12 : Cond.fieldLink RX1 70 "GaugeBounds$Battery" "clashes" "I" ∈ wsX1_narrowCharge := List.mem_of_getElem? (i := 12) rfl
theorem ii_X1_narrowCharge_X1 : ∀ w ∈ wsX10, w ∈ wsX1_narrowCharge := fun _ h => List.mem_cons_of_mem _ (List.mem_append_right _ (h))
theorem qvX1_narrowCharge : yX1_narrowCharge.cls = RX1 ∧ yX1_narrowCharge.cls ≠ "java/lang/invoke/MethodHandle" ∧ yX1_narrowCharge.cls ≠ "java/lang/invoke/VarHandle" ∧ (parseMethodDescriptor yX1_narrowCharge.desc).map (fun d => d.parameters.length) = some 2 := by decide +kernel
set_option maxHeartbeats 4000000 in
set_option maxRecDepth 100000 in
theorem kX1_narrowCharge (l : Launch) (E : gEnv) (a : Nat → Nat) (B : Bat) (ra : Int32) (rb : Int32) : gMv l E yX1_narrowCharge wsX1_narrowCharge rX1_narrowCharge [.ref (a 0), .int ra, .int rb] (wB E a B) (wB E a (fX1_narrowCharge B ra rb)) := by
  refine gMv_of (cc := cX1_narrowCharge) (maxL := 5) (ret := none) (by decide) rfl rfl (Nat.le_of_ble_eq_true rfl) ?_
  intro p e s m args below meth c A Q ls hB hQ
  obtain ⟨hx, hb, hml, hown, hts, hK, hP, hD, hA, hS, hl⟩ := hB
  have hown : s.vm.findClass RX1 = some m.cls := hown
  have hP : va_P E.1 vwCl [(a 0, .inr (1, [.ref (a 1), .ref (a 3), .int (B.1 0), .int (B.1 1), .int (B.1 2), .int (B.1 3), .int (B.1 4), .int (B.1 5), .int (B.1 6), .int (B.1 7), .int (B.1 8), .int (B.1 9), .int (B.1 10), .int (B.1 11), .int (B.1 12)])), (a 1, .inr (2, [.ref (a 2)])), (a 2, .inl (eI E, 11, .inl B.2.1)), (a 3, .inr (0, [.ref (a 4), .ref (a 5)])), (a 4, .inl (eJ E, 22, .inr (.inl B.2.2.1))), (a 5, .inl (eI E, 22, .inl B.2.2.2))] s.heap := hP
  have hD : va_D A [(a 0, .inr (1, [.ref (a 1), .ref (a 3), .int (B.1 0), .int (B.1 1), .int (B.1 2), .int (B.1 3), .int (B.1 4), .int (B.1 5), .int (B.1 6), .int (B.1 7), .int (B.1 8), .int (B.1 9), .int (B.1 10), .int (B.1 11), .int (B.1 12)])), (a 1, .inr (2, [.ref (a 2)])), (a 2, .inl (eI E, 11, .inl B.2.1)), (a 3, .inr (0, [.ref (a 4), .ref (a 5)])), (a 4, .inl (eJ E, 22, .inr (.inl B.2.2.1))), (a 5, .inl (eI E, 22, .inl B.2.2.2))] := hD
  have hl : lv_has ls 5 [(0, .ref (a 0)), (1, .int ra), (2, .int rb)] := hl
  refine lv_aload_n (pc := 0) hx hb dX1_narrowCharge_0 rfl (lv_at hl 0 rfl) ?_
  refine g_get (v := .int (B.1 0)) (pc := 1) hx hb hts ii_X1_narrowCharge_X1 hown hK.1 hP 0 rfl rfl 2 (by decide) ⟨rfl, rfl, rfl⟩ mm_X1_narrowCharge_1 rfl dX1_narrowCharge_1 ?_
  refine lv_iload_n (pc := 4) hx hb dX1_narrowCharge_4 rfl (lv_at hl 1 rfl) ?_
  refine lv_aload_n (pc := 5) hx hb dX1_narrowCharge_5 rfl (lv_at hl 0 rfl) ?_
  refine g_get (v := .int (B.1 2)) (pc := 6) hx hb hts ii_X1_narrowCharge_X1 hown hK.1 hP 0 rfl rfl 4 (by decide) ⟨rfl, rfl, rfl⟩ mm_X1_narrowCharge_2 rfl dX1_narrowCharge_6 ?_
  refine lv_imul (pc := 9) hx hb dX1_narrowCharge_9 ?_
  refine lv_sipush (v := 1000) (pc := 10) hx hb dX1_narrowCharge_10 rfl ?_
  refine lv_idiv (pc := 13) hx hb dX1_narrowCharge_13 (by decide) ?_
  refine va_mmax (pc := 14) hx hb (hml.trans hl.1.symm) hown (hts _ mm_X1_narrowCharge_3) (hts _ mm_X1_narrowCharge_4) (hts _ mm_X1_narrowCharge_5) (hts _ mm_X1_narrowCharge_6) (Nat.le_of_ble_eq_true rfl) (Nat.le_of_ble_eq_true rfl) (Nat.zero_le _) (Nat.zero_le _) dX1_narrowCharge_14 ?_
  refine g_topi (fun x1 ex1 => ?_)
  refine lv_istore_n (lv' := [(3, .int x1), (0, .ref (a 0)), (1, .int ra), (2, .int rb)]) (pc := 17) hx hb dX1_narrowCharge_17 rfl hl (by decide) rfl (fun ls hl => ?_)
  refine lv_aload_n (pc := 18) hx hb dX1_narrowCharge_18 rfl (lv_at hl 1 rfl) ?_
  refine g_get (v := .int (B.1 1)) (pc := 19) hx hb hts ii_X1_narrowCharge_X1 hown hK.1 hP 0 rfl rfl 3 (by decide) ⟨rfl, rfl, rfl⟩ mm_X1_narrowCharge_7 rfl dX1_narrowCharge_19 ?_
  refine lv_iload_n (pc := 22) hx hb dX1_narrowCharge_22 rfl (lv_at hl 3 rfl) ?_
  refine lv_aload_n (pc := 23) hx hb dX1_narrowCharge_23 rfl (lv_at hl 1 rfl) ?_
  refine g_get (v := .int (B.1 3)) (pc := 24) hx hb hts ii_X1_narrowCharge_X1 hown hK.1 hP 0 rfl rfl 5 (by decide) ⟨rfl, rfl, rfl⟩ mm_X1_narrowCharge_8 rfl dX1_narrowCharge_24 ?_
  refine lv_imul (pc := 27) hx hb dX1_narrowCharge_27 ?_
  refine lv_sipush (v := 1000) (pc := 28) hx hb dX1_narrowCharge_28 rfl ?_
  refine lv_iadd (pc := 31) hx hb dX1_narrowCharge_31 ?_
  refine lv_iconst (v := 1) (pc := 32) hx hb dX1_narrowCharge_32 rfl ?_
  refine lv_isub (pc := 33) hx hb dX1_narrowCharge_33 ?_
  refine lv_sipush (v := 1000) (pc := 34) hx hb dX1_narrowCharge_34 rfl ?_
  refine lv_idiv (pc := 37) hx hb dX1_narrowCharge_37 (by decide) ?_
  refine va_mmin (pc := 38) hx hb (hml.trans hl.1.symm) hown (hts _ mm_X1_narrowCharge_9) (hts _ mm_X1_narrowCharge_10) (hts _ mm_X1_narrowCharge_5) (hts _ mm_X1_narrowCharge_11) (Nat.le_of_ble_eq_true rfl) (Nat.le_of_ble_eq_true rfl) (Nat.zero_le _) (Nat.zero_le _) dX1_narrowCharge_38 ?_
  refine g_topi (fun x2 ex2 => ?_)
  refine lv_istore (lv' := [(4, .int x2), (3, .int x1), (0, .ref (a 0)), (1, .int ra), (2, .int rb)]) (pc := 41) hx hb dX1_narrowCharge_41 hl (by decide) rfl (fun ls hl => ?_)
  refine lv_iload_n (pc := 43) hx hb dX1_narrowCharge_43 rfl (lv_at hl 1 rfl) ?_
  refine lv_iload (pc := 44) hx hb dX1_narrowCharge_44 (lv_at hl 0 rfl) ?_
  refine lv_icmp_le (tgt := 60) (pc := 46) hx hb dX1_narrowCharge_46 (by decide) (fun c_3 => ?_) (fun c_3 => ?_)
  · refine lv_aload_n (pc := 60) hx hb dX1_narrowCharge_60 rfl (lv_at hl 2 rfl) ?_
    refine lv_iload_n (pc := 61) hx hb dX1_narrowCharge_61 rfl (lv_at hl 1 rfl) ?_
    refine g_put (w1 := [(a 0, .inr (1, [.ref (a 1), .ref (a 3), .int x1, .int (B.1 1), .int (B.1 2), .int (B.1 3), .int (B.1 4), .int (B.1 5), .int (B.1 6), .int (B.1 7), .int (B.1 8), .int (B.1 9), .int (B.1 10), .int (B.1 11), .int (B.1 12)])), (a 1, .inr (2, [.ref (a 2)])), (a 2, .inl (eI E, 11, .inl B.2.1)), (a 3, .inr (0, [.ref (a 4), .ref (a 5)])), (a 4, .inl (eJ E, 22, .inr (.inl B.2.2.1))), (a 5, .inl (eI E, 22, .inl B.2.2.2))]) (pc := 62) hx hb hts ii_X1_narrowCharge_X1 tyX1 tyX1_ok nmX1 hown hK.1 hP hD hS 0 rfl rfl 2 (by decide) ⟨rfl, rfl, rfl⟩ mm_X1_narrowCharge_1 rfl rfl rfl rfl (Nat.le_of_ble_eq_true rfl) rfl dX1_narrowCharge_62 (fun H locs hP hD hS => ?_)
    refine lv_aload_n (pc := 65) hx hb dX1_narrowCharge_65 rfl (lv_at hl 2 rfl) ?_
    refine lv_iload (pc := 66) hx hb dX1_narrowCharge_66 (lv_at hl 0 rfl) ?_
    refine g_put (w1 := [(a 0, .inr (1, [.ref (a 1), .ref (a 3), .int x1, .int x2, .int (B.1 2), .int (B.1 3), .int (B.1 4), .int (B.1 5), .int (B.1 6), .int (B.1 7), .int (B.1 8), .int (B.1 9), .int (B.1 10), .int (B.1 11), .int (B.1 12)])), (a 1, .inr (2, [.ref (a 2)])), (a 2, .inl (eI E, 11, .inl B.2.1)), (a 3, .inr (0, [.ref (a 4), .ref (a 5)])), (a 4, .inl (eJ E, 22, .inr (.inl B.2.2.1))), (a 5, .inl (eI E, 22, .inl B.2.2.2))]) (pc := 68) hx hb hts ii_X1_narrowCharge_X1 tyX1 tyX1_ok nmX1 hown hK.1 hP hD hS 0 rfl rfl 3 (by decide) ⟨rfl, rfl, rfl⟩ mm_X1_narrowCharge_7 rfl rfl rfl rfl (Nat.le_of_ble_eq_true rfl) rfl dX1_narrowCharge_68 (fun H locs hP hD hS => ?_)
    subst ex2
    subst ex1
    have hfn : fX1_narrowCharge B ra rb = _ := if_pos c_3
    rw [hfn] at hQ
    exact hQ _ _ _ _ hP hD hS dX1_narrowCharge_71
  · refine lv_aload_n (pc := 49) hx hb dX1_narrowCharge_49 rfl (lv_at hl 2 rfl) ?_
    refine lv_dup (pc := 50) hx hb dX1_narrowCharge_50 rfl ?_
    refine g_get (v := .int (B.1 11)) (pc := 51) hx hb hts ii_X1_narrowCharge_X1 hown hK.1 hP 0 rfl rfl 13 (by decide) ⟨rfl, rfl, rfl⟩ mm_X1_narrowCharge_12 rfl dX1_narrowCharge_51 ?_
    refine lv_iconst (v := 1) (pc := 54) hx hb dX1_narrowCharge_54 rfl ?_
    refine lv_iadd (pc := 55) hx hb dX1_narrowCharge_55 ?_
    refine g_topi (fun x4 ex4 => ?_)
    refine g_put (w1 := [(a 0, .inr (1, [.ref (a 1), .ref (a 3), .int (B.1 0), .int (B.1 1), .int (B.1 2), .int (B.1 3), .int (B.1 4), .int (B.1 5), .int (B.1 6), .int (B.1 7), .int (B.1 8), .int (B.1 9), .int (B.1 10), .int x4, .int (B.1 12)])), (a 1, .inr (2, [.ref (a 2)])), (a 2, .inl (eI E, 11, .inl B.2.1)), (a 3, .inr (0, [.ref (a 4), .ref (a 5)])), (a 4, .inl (eJ E, 22, .inr (.inl B.2.2.1))), (a 5, .inl (eI E, 22, .inl B.2.2.2))]) (pc := 56) hx hb hts ii_X1_narrowCharge_X1 tyX1 tyX1_ok nmX1 hown hK.1 hP hD hS 0 rfl rfl 13 (by decide) ⟨rfl, rfl, rfl⟩ mm_X1_narrowCharge_12 rfl rfl rfl rfl (Nat.le_of_ble_eq_true rfl) rfl dX1_narrowCharge_56 (fun H locs hP hD hS => ?_)
    subst ex4
    subst ex2
    subst ex1
    have hfn : fX1_narrowCharge B ra rb = _ := if_neg c_3
    rw [hfn] at hQ
    exact hQ _ _ _ _ hP hD hS dX1_narrowCharge_59

def fX1_rest (B : Bat) (v : Int32) : Int32 × (Bat) :=
  let r1 : Int32 := fX1_isVoltage v
  if r1 = 0 then
    ((-10000002), B)
  else
    let r3 : Int32 := fX1_restBound B v 0
    let r4 : Int32 := fX1_restBound B v 1
    if r3 = (-10000001) then
      ((-10000003), B)
    else
      if r4 = (-10000001) then
        ((-10000003), B)
      else
        let x8 : Bat := (if (B.1 8) ≤ 0 then B else (let r8 : Bat := fX1_learnCapacity B r3 r4; r8))
        let r10 : Bat := fX1_narrowCharge x8 r3 r4
        let x11 : Int32 := (if (r10.1 3) < (r10.1 1) then (r10.1 3) else (r10.1 1))
        let x12 : Int32 := (if (r10.1 3) < (r10.1 0) then (r10.1 3) else (r10.1 0))
        let x13 : Int32 := (r10.1 8) + 1
        let r14 : Bat := fX1_showEmpty ((upd (upd (upd (upd (upd (upd (upd r10.1 1 x11) 0 x12) 6 0) 7 0) 9 r3) 10 r4) 8 x13), r10.2.1, r10.2.2.1, r10.2.2.2)
        ((r14.1 1) - (r14.1 0), r14)
abbrev rX1_rest : Room := { frames := 4, cells := 0, slots := 0, locals := 92 }
theorem mm_X1_rest_2 : Cond.constant RX1 41 (-10000001) ∈ wsX1_rest := List.mem_of_getElem? (i := 2) rfl
theorem mm_X1_rest_3 : Cond.constant RX1 97 (-10000003) ∈ wsX1_rest := List.mem_of_getElem? (i := 3) rfl
theorem mm_X1_rest_4 : Cond.fieldLink RX1 67 "GaugeBounds$Battery" "rests" "I" ∈ wsX1_rest := List.mem_of_getElem? (i := 4) rfl
theorem mm_X1_rest_5 : Cond.fieldLink RX1 25 "GaugeBounds$Battery" "high" "I" ∈ wsX1_rest := List.mem_of_getElem? (i := 5) rfl
theorem mm_X1_rest_6 : Cond.fieldLink RX1 32 "GaugeBounds$Battery" "mostCapacity" "I" ∈ wsX1_rest := List.mem_of_getElem? (i := 6) rfl
theorem mm_X1_rest_7 : Cond.methodLink RX1 94 Lib.Math.min.name ∈ wsX1_rest := List.mem_of_getElem? (i := 7) rfl
theorem mm_X1_rest_8 : Cond.static Lib.Math.min.name ∈ wsX1_rest := List.mem_of_getElem? (i := 8) rfl
theorem mm_X1_rest_9 : Cond.initialized "java/lang/Math" ∈ wsX1_rest := List.mem_of_getElem? (i := 9) rfl
theorem mm_X1_rest_10 : Cond.code Lib.Math.min.name Lib.Math.min.code 2 (some .int) ∈ wsX1_rest := List.mem_of_getElem? (i := 10) rfl
theorem mm_X1_rest_11 : Cond.fieldLink RX1 58 "GaugeBounds$Battery" "low" "I" ∈ wsX1_rest := List.mem_of_getElem? (i := 11) rfl
theorem mm_X1_rest_12 : Cond.fieldLink RX1 61 "GaugeBounds$Battery" "drawn" "I" ∈ wsX1_rest := List.mem_of_getElem? (i := 12) rfl
theorem mm_X1_rest_13 : Cond.fieldLink RX1 64 "GaugeBounds$Battery" "steps" "I" ∈ wsX1_rest := List.mem_of_getElem? (i := 13) rfl
theorem mm_X1_rest_14 : Cond.fieldLink RX1 42 "GaugeBounds$Battery" "lastA" "I" ∈ wsX1_rest := List.mem_of_getElem? (i := 14) rfl
theorem mm_X1_rest_15 : Cond.fieldLink RX1 45 "GaugeBounds$Battery" "lastB" "I" ∈ wsX1_rest := List.mem_of_getElem? (i := 15) rfl
theorem mm_X1_rest_1 : Cond.constant RX1 77 (-10000002) ∈ wsX1_rest := List.mem_of_getElem? (i := 1) rfl
theorem ii_X1_rest_X1 : ∀ w ∈ wsX10, w ∈ wsX1_rest := fun _ h => List.mem_cons_of_mem _ (List.mem_append_left _ (List.mem_append_right _ (h)))
theorem qvX1_rest : yX1_rest.cls = RX1 ∧ yX1_rest.cls ≠ "java/lang/invoke/MethodHandle" ∧ yX1_rest.cls ≠ "java/lang/invoke/VarHandle" ∧ (parseMethodDescriptor yX1_rest.desc).map (fun d => d.parameters.length) = some 1 := by decide +kernel
set_option maxHeartbeats 4000000 in
set_option maxRecDepth 100000 in
theorem kX1_rest (l : Launch) (E : gEnv) (a : Nat → Nat) (B : Bat) (v : Int32) : gMi l E yX1_rest wsX1_rest rX1_rest [.ref (a 0), .int v] (wB E a B) (fX1_rest B v).1 (wB E a ((fX1_rest B v).2)) := by
  refine gMi_of (cc := cX1_rest) (maxL := 4) (ret := (some .int)) (by decide) rfl rfl (Nat.le_of_ble_eq_true rfl) ?_
  intro p e s m args below meth c A Q ls hB hQ
  obtain ⟨hx, hb, hml, hown, hts, hK, hP, hD, hA, hS, hl⟩ := hB
  have hown : s.vm.findClass RX1 = some m.cls := hown
  have hP : va_P E.1 vwCl [(a 0, .inr (1, [.ref (a 1), .ref (a 3), .int (B.1 0), .int (B.1 1), .int (B.1 2), .int (B.1 3), .int (B.1 4), .int (B.1 5), .int (B.1 6), .int (B.1 7), .int (B.1 8), .int (B.1 9), .int (B.1 10), .int (B.1 11), .int (B.1 12)])), (a 1, .inr (2, [.ref (a 2)])), (a 2, .inl (eI E, 11, .inl B.2.1)), (a 3, .inr (0, [.ref (a 4), .ref (a 5)])), (a 4, .inl (eJ E, 22, .inr (.inl B.2.2.1))), (a 5, .inl (eI E, 22, .inl B.2.2.2))] s.heap := hP
  have hD : va_D A [(a 0, .inr (1, [.ref (a 1), .ref (a 3), .int (B.1 0), .int (B.1 1), .int (B.1 2), .int (B.1 3), .int (B.1 4), .int (B.1 5), .int (B.1 6), .int (B.1 7), .int (B.1 8), .int (B.1 9), .int (B.1 10), .int (B.1 11), .int (B.1 12)])), (a 1, .inr (2, [.ref (a 2)])), (a 2, .inl (eI E, 11, .inl B.2.1)), (a 3, .inr (0, [.ref (a 4), .ref (a 5)])), (a 4, .inl (eJ E, 22, .inr (.inl B.2.2.1))), (a 5, .inl (eI E, 22, .inl B.2.2.2))] := hD
  have hl : lv_has ls 4 [(0, .ref (a 0)), (1, .int v)] := hl
  refine lv_iload_n (pc := 0) hx hb dX1_rest_0 rfl (lv_at hl 1 rfl) ?_
  obtain ⟨r1, er1⟩ : ∃ z : Int32, fX1_isVoltage v = z := ⟨_, rfl⟩
  have hr1 := kX1_isVoltage l E v
  rw [er1] at hr1
  refine gcSi (pc := 1) (As := [.int v]) (rest := []) ⟨hx, hb, hml, hown, hts⟩ hr1 (cwS 1 hts gX1_rest_X1_isVoltage rfl rfl rfl qsX1_isVoltage ⟨Nat.le_of_ble_eq_true rfl, Nat.le_of_ble_eq_true rfl⟩) hK hP hD hS hA rfl hl.1 rfl (Nat.le_of_ble_eq_true rfl) dX1_rest_1 ⟨Nat.zero_le _, Nat.zero_le _⟩ (fun H locs hP hD hS => ?_)
  refine lv_if_ne (tgt := 10) (pc := 4) hx hb dX1_rest_4 (by decide) (fun c_2 => ?_) (fun c_2 => ?_)
  · refine lv_aload_n (pc := 10) hx hb dX1_rest_10 rfl (lv_at hl 0 rfl) ?_
    refine lv_iload_n (pc := 11) hx hb dX1_rest_11 rfl (lv_at hl 1 rfl) ?_
    refine lv_iconst (v := 0) (pc := 12) hx hb dX1_rest_12 rfl ?_
    obtain ⟨r3, er3⟩ : ∃ z : Int32, fX1_restBound B v 0 = z := ⟨_, rfl⟩
    have hr3 := kX1_restBound l E a B v 0
    rw [er3] at hr3
    refine gcVi (pc := 13) (w1 := [(a 0, .inr (1, [.ref (a 1), .ref (a 3), .int (B.1 0), .int (B.1 1), .int (B.1 2), .int (B.1 3), .int (B.1 4), .int (B.1 5), .int (B.1 6), .int (B.1 7), .int (B.1 8), .int (B.1 9), .int (B.1 10), .int (B.1 11), .int (B.1 12)])), (a 1, .inr (2, [.ref (a 2)])), (a 2, .inl (eI E, 11, .inl B.2.1)), (a 3, .inr (0, [.ref (a 4), .ref (a 5)])), (a 4, .inl (eJ E, 22, .inr (.inl B.2.2.1))), (a 5, .inl (eI E, 22, .inl B.2.2.2))]) (pre := []) (post := []) (As := [.int v, .int 0]) (rest := []) (q0 := 0) ⟨hx, hb, hml, hown, hts⟩ hr3 (cwV 2 hts gX1_rest_X1_restBound rfl rfl rfl qvX1_restBound ⟨Nat.le_of_ble_eq_true rfl, Nat.le_of_ble_eq_true rfl⟩) hK hP hD hS hA rfl rfl rfl rfl rfl hl.1 rfl (Nat.le_of_ble_eq_true rfl) dX1_rest_13 ⟨Nat.zero_le _, Nat.zero_le _⟩ (fun H locs hP hD hS => ?_)
    refine lv_istore_n (lv' := [(2, .int r3), (0, .ref (a 0)), (1, .int v)]) (pc := 16) hx hb dX1_rest_16 rfl hl (by decide) rfl (fun ls hl => ?_)
    refine lv_aload_n (pc := 17) hx hb dX1_rest_17 rfl (lv_at hl 1 rfl) ?_
    refine lv_iload_n (pc := 18) hx hb dX1_rest_18 rfl (lv_at hl 2 rfl) ?_
    refine lv_iconst (v := 1) (pc := 19) hx hb dX1_rest_19 rfl ?_
    obtain ⟨r4, er4⟩ : ∃ z : Int32, fX1_restBound B v 1 = z := ⟨_, rfl⟩
    have hr4 := kX1_restBound l E a B v 1
    rw [er4] at hr4
    refine gcVi (pc := 20) (w1 := [(a 0, .inr (1, [.ref (a 1), .ref (a 3), .int (B.1 0), .int (B.1 1), .int (B.1 2), .int (B.1 3), .int (B.1 4), .int (B.1 5), .int (B.1 6), .int (B.1 7), .int (B.1 8), .int (B.1 9), .int (B.1 10), .int (B.1 11), .int (B.1 12)])), (a 1, .inr (2, [.ref (a 2)])), (a 2, .inl (eI E, 11, .inl B.2.1)), (a 3, .inr (0, [.ref (a 4), .ref (a 5)])), (a 4, .inl (eJ E, 22, .inr (.inl B.2.2.1))), (a 5, .inl (eI E, 22, .inl B.2.2.2))]) (pre := []) (post := []) (As := [.int v, .int 1]) (rest := []) (q0 := 0) ⟨hx, hb, hml, hown, hts⟩ hr4 (cwV 2 hts gX1_rest_X1_restBound rfl rfl rfl qvX1_restBound ⟨Nat.le_of_ble_eq_true rfl, Nat.le_of_ble_eq_true rfl⟩) hK hP hD hS hA rfl rfl rfl rfl rfl hl.1 rfl (Nat.le_of_ble_eq_true rfl) dX1_rest_20 ⟨Nat.zero_le _, Nat.zero_le _⟩ (fun H locs hP hD hS => ?_)
    refine lv_istore_n (lv' := [(3, .int r4), (2, .int r3), (0, .ref (a 0)), (1, .int v)]) (pc := 23) hx hb dX1_rest_23 rfl hl (by decide) rfl (fun ls hl => ?_)
    refine lv_iload_n (pc := 24) hx hb dX1_rest_24 rfl (lv_at hl 1 rfl) ?_
    refine lv_ldc (v := (-10000001)) (pc := 25) hx hb hown (hts _ mm_X1_rest_2) dX1_rest_25 ?_
    refine lv_icmp_eq (tgt := 36) (pc := 27) hx hb dX1_rest_27 (by decide) (fun c_5 => ?_) (fun c_5 => ?_)
    · refine lv_ldc (v := (-10000003)) (pc := 36) hx hb hown (hts _ mm_X1_rest_3) dX1_rest_36 ?_
      subst er4
      subst er3
      subst er1
      have hfn : fX1_rest B v = _ := (if_neg c_2).trans (if_pos c_5)
      rw [hfn] at hQ
      exact hQ _ _ _ _ _ rfl hP hD hS dX1_rest_38
    · refine lv_iload_n (pc := 30) hx hb dX1_rest_30 rfl (lv_at hl 0 rfl) ?_
      refine lv_ldc (v := (-10000001)) (pc := 31) hx hb hown (hts _ mm_X1_rest_2) dX1_rest_31 ?_
      refine lv_icmp_ne (tgt := 39) (pc := 33) hx hb dX1_rest_33 (by decide) (fun c_6 => ?_) (fun c_6 => ?_)
      · refine lv_aload_n (pc := 39) hx hb dX1_rest_39 rfl (lv_at hl 2 rfl) ?_
        refine g_get (v := .int (B.1 8)) (pc := 40) hx hb hts ii_X1_rest_X1 hown hK.1 hP 0 rfl rfl 10 (by decide) ⟨rfl, rfl, rfl⟩ mm_X1_rest_4 rfl dX1_rest_40 ?_
        have J_9 : ∀ (H : Heap) (locs : List Loc) (ls : Array Slot) (x8 : Bat), (if (B.1 8) ≤ 0 then B else (let r8 : Bat := fX1_learnCapacity B r3 r4; r8)) = x8 → va_P E.1 vwCl [(a 0, .inr (1, [.ref (a 1), .ref (a 3), .int (x8.1 0), .int (x8.1 1), .int (x8.1 2), .int (x8.1 3), .int (x8.1 4), .int (x8.1 5), .int (x8.1 6), .int (x8.1 7), .int (x8.1 8), .int (x8.1 9), .int (x8.1 10), .int (x8.1 11), .int (x8.1 12)])), (a 1, .inr (2, [.ref (a 2)])), (a 2, .inl (eI E, 11, .inl x8.2.1)), (a 3, .inr (0, [.ref (a 4), .ref (a 5)])), (a 4, .inl (eJ E, 22, .inr (.inl x8.2.2.1))), (a 5, .inl (eI E, 22, .inl x8.2.2.2))] H → va_D A [(a 0, .inr (1, [.ref (a 1), .ref (a 3), .int (x8.1 0), .int (x8.1 1), .int (x8.1 2), .int (x8.1 3), .int (x8.1 4), .int (x8.1 5), .int (x8.1 6), .int (x8.1 7), .int (x8.1 8), .int (x8.1 9), .int (x8.1 10), .int (x8.1 11), .int (x8.1 12)])), (a 1, .inr (2, [.ref (a 2)])), (a 2, .inl (eI E, 11, .inl x8.2.1)), (a 3, .inr (0, [.ref (a 4), .ref (a 5)])), (a 4, .inl (eJ E, 22, .inr (.inl x8.2.2.1))), (a 5, .inl (eI E, 22, .inl x8.2.2.2))] → va_S A s.heap H locs → lv_has ls 4 [(0, .ref (a 0)), (1, .int v), (2, .int r3), (3, .int r4)] → W p l e rX1_rest s m args below meth c H locs 0 0 Q (F0 m 52 ls []) := by
          intro H locs ls x8 ex8 hP hD hS hl
          refine lv_aload_n (pc := 52) hx hb dX1_rest_52 rfl (lv_at hl 0 rfl) ?_
          refine lv_iload_n (pc := 53) hx hb dX1_rest_53 rfl (lv_at hl 2 rfl) ?_
          refine lv_iload_n (pc := 54) hx hb dX1_rest_54 rfl (lv_at hl 3 rfl) ?_
          obtain ⟨r10, er10⟩ : ∃ z : Bat, fX1_narrowCharge x8 r3 r4 = z := ⟨_, rfl⟩
          have hr10 := kX1_narrowCharge l E a x8 r3 r4
          rw [er10] at hr10
          refine gcVv (pc := 55) (w1 := [(a 0, .inr (1, [.ref (a 1), .ref (a 3), .int (r10.1 0), .int (r10.1 1), .int (r10.1 2), .int (r10.1 3), .int (r10.1 4), .int (r10.1 5), .int (r10.1 6), .int (r10.1 7), .int (r10.1 8), .int (r10.1 9), .int (r10.1 10), .int (r10.1 11), .int (r10.1 12)])), (a 1, .inr (2, [.ref (a 2)])), (a 2, .inl (eI E, 11, .inl r10.2.1)), (a 3, .inr (0, [.ref (a 4), .ref (a 5)])), (a 4, .inl (eJ E, 22, .inr (.inl r10.2.2.1))), (a 5, .inl (eI E, 22, .inl r10.2.2.2))]) (pre := []) (post := []) (As := [.int r3, .int r4]) (rest := []) (q0 := 0) ⟨hx, hb, hml, hown, hts⟩ hr10 (cwV 2 hts gX1_rest_X1_narrowCharge rfl rfl rfl qvX1_narrowCharge ⟨Nat.le_of_ble_eq_true rfl, Nat.le_of_ble_eq_true rfl⟩) hK hP hD hS hA rfl rfl rfl rfl rfl hl.1 rfl (Nat.le_of_ble_eq_true rfl) dX1_rest_55 ⟨Nat.zero_le _, Nat.zero_le _⟩ (fun H locs hP hD hS => ?_)
          refine lv_aload_n (pc := 58) hx hb dX1_rest_58 rfl (lv_at hl 0 rfl) ?_
          refine lv_aload_n (pc := 59) hx hb dX1_rest_59 rfl (lv_at hl 0 rfl) ?_
          refine g_get (v := .int (r10.1 1)) (pc := 60) hx hb hts ii_X1_rest_X1 hown hK.1 hP 0 rfl rfl 3 (by decide) ⟨rfl, rfl, rfl⟩ mm_X1_rest_5 rfl dX1_rest_60 ?_
          refine lv_aload_n (pc := 63) hx hb dX1_rest_63 rfl (lv_at hl 0 rfl) ?_
          refine g_get (v := .int (r10.1 3)) (pc := 64) hx hb hts ii_X1_rest_X1 hown hK.1 hP 0 rfl rfl 5 (by decide) ⟨rfl, rfl, rfl⟩ mm_X1_rest_6 rfl dX1_rest_64 ?_
          refine va_mmin (pc := 67) hx hb (hml.trans hl.1.symm) hown (hts _ mm_X1_rest_7) (hts _ mm_X1_rest_8) (hts _ mm_X1_rest_9) (hts _ mm_X1_rest_10) (Nat.le_of_ble_eq_true rfl) (Nat.le_of_ble_eq_true rfl) (Nat.zero_le _) (Nat.zero_le _) dX1_rest_67 ?_
          refine g_topi (fun x11 ex11 => ?_)
          refine g_put (w1 := [(a 0, .inr (1, [.ref (a 1), .ref (a 3), .int (r10.1 0), .int x11, .int (r10.1 2), .int (r10.1 3), .int (r10.1 4), .int (r10.1 5), .int (r10.1 6), .int (r10.1 7), .int (r10.1 8), .int (r10.1 9), .int (r10.1 10), .int (r10.1 11), .int (r10.1 12)])), (a 1, .inr (2, [.ref (a 2)])), (a 2, .inl (eI E, 11, .inl r10.2.1)), (a 3, .inr (0, [.ref (a 4), .ref (a 5)])), (a 4, .inl (eJ E, 22, .inr (.inl r10.2.2.1))), (a 5, .inl (eI E, 22, .inl r10.2.2.2))]) (pc := 70) hx hb hts ii_X1_rest_X1 tyX1 tyX1_ok nmX1 hown hK.1 hP hD hS 0 rfl rfl 3 (by decide) ⟨rfl, rfl, rfl⟩ mm_X1_rest_5 rfl rfl rfl rfl (Nat.le_of_ble_eq_true rfl) rfl dX1_rest_70 (fun H locs hP hD hS => ?_)
          refine lv_aload_n (pc := 73) hx hb dX1_rest_73 rfl (lv_at hl 0 rfl) ?_
          refine lv_aload_n (pc := 74) hx hb dX1_rest_74 rfl (lv_at hl 0 rfl) ?_
          refine g_get (v := .int (r10.1 0)) (pc := 75) hx hb hts ii_X1_rest_X1 hown hK.1 hP 0 rfl rfl 2 (by decide) ⟨rfl, rfl, rfl⟩ mm_X1_rest_11 rfl dX1_rest_75 ?_
          refine lv_aload_n (pc := 78) hx hb dX1_rest_78 rfl (lv_at hl 0 rfl) ?_
          refine g_get (v := .int (r10.1 3)) (pc := 79) hx hb hts ii_X1_rest_X1 hown hK.1 hP 0 rfl rfl 5 (by decide) ⟨rfl, rfl, rfl⟩ mm_X1_rest_6 rfl dX1_rest_79 ?_
          refine va_mmin (pc := 82) hx hb (hml.trans hl.1.symm) hown (hts _ mm_X1_rest_7) (hts _ mm_X1_rest_8) (hts _ mm_X1_rest_9) (hts _ mm_X1_rest_10) (Nat.le_of_ble_eq_true rfl) (Nat.le_of_ble_eq_true rfl) (Nat.zero_le _) (Nat.zero_le _) dX1_rest_82 ?_
          refine g_topi (fun x12 ex12 => ?_)
          refine g_put (w1 := [(a 0, .inr (1, [.ref (a 1), .ref (a 3), .int x12, .int x11, .int (r10.1 2), .int (r10.1 3), .int (r10.1 4), .int (r10.1 5), .int (r10.1 6), .int (r10.1 7), .int (r10.1 8), .int (r10.1 9), .int (r10.1 10), .int (r10.1 11), .int (r10.1 12)])), (a 1, .inr (2, [.ref (a 2)])), (a 2, .inl (eI E, 11, .inl r10.2.1)), (a 3, .inr (0, [.ref (a 4), .ref (a 5)])), (a 4, .inl (eJ E, 22, .inr (.inl r10.2.2.1))), (a 5, .inl (eI E, 22, .inl r10.2.2.2))]) (pc := 85) hx hb hts ii_X1_rest_X1 tyX1 tyX1_ok nmX1 hown hK.1 hP hD hS 0 rfl rfl 2 (by decide) ⟨rfl, rfl, rfl⟩ mm_X1_rest_11 rfl rfl rfl rfl (Nat.le_of_ble_eq_true rfl) rfl dX1_rest_85 (fun H locs hP hD hS => ?_)
          refine lv_aload_n (pc := 88) hx hb dX1_rest_88 rfl (lv_at hl 0 rfl) ?_
          refine lv_iconst (v := 0) (pc := 89) hx hb dX1_rest_89 rfl ?_
          refine g_put (w1 := [(a 0, .inr (1, [.ref (a 1), .ref (a 3), .int x12, .int x11, .int (r10.1 2), .int (r10.1 3), .int (r10.1 4), .int (r10.1 5), .int 0, .int (r10.1 7), .int (r10.1 8), .int (r10.1 9), .int (r10.1 10), .int (r10.1 11), .int (r10.1 12)])), (a 1, .inr (2, [.ref (a 2)])), (a 2, .inl (eI E, 11, .inl r10.2.1)), (a 3, .inr (0, [.ref (a 4), .ref (a 5)])), (a 4, .inl (eJ E, 22, .inr (.inl r10.2.2.1))), (a 5, .inl (eI E, 22, .inl r10.2.2.2))]) (pc := 90) hx hb hts ii_X1_rest_X1 tyX1 tyX1_ok nmX1 hown hK.1 hP hD hS 0 rfl rfl 8 (by decide) ⟨rfl, rfl, rfl⟩ mm_X1_rest_12 rfl rfl rfl rfl (Nat.le_of_ble_eq_true rfl) rfl dX1_rest_90 (fun H locs hP hD hS => ?_)
          refine lv_aload_n (pc := 93) hx hb dX1_rest_93 rfl (lv_at hl 0 rfl) ?_
          refine lv_iconst (v := 0) (pc := 94) hx hb dX1_rest_94 rfl ?_
          refine g_put (w1 := [(a 0, .inr (1, [.ref (a 1), .ref (a 3), .int x12, .int x11, .int (r10.1 2), .int (r10.1 3), .int (r10.1 4), .int (r10.1 5), .int 0, .int 0, .int (r10.1 8), .int (r10.1 9), .int (r10.1 10), .int (r10.1 11), .int (r10.1 12)])), (a 1, .inr (2, [.ref (a 2)])), (a 2, .inl (eI E, 11, .inl r10.2.1)), (a 3, .inr (0, [.ref (a 4), .ref (a 5)])), (a 4, .inl (eJ E, 22, .inr (.inl r10.2.2.1))), (a 5, .inl (eI E, 22, .inl r10.2.2.2))]) (pc := 95) hx hb hts ii_X1_rest_X1 tyX1 tyX1_ok nmX1 hown hK.1 hP hD hS 0 rfl rfl 9 (by decide) ⟨rfl, rfl, rfl⟩ mm_X1_rest_13 rfl rfl rfl rfl (Nat.le_of_ble_eq_true rfl) rfl dX1_rest_95 (fun H locs hP hD hS => ?_)
          refine lv_aload_n (pc := 98) hx hb dX1_rest_98 rfl (lv_at hl 0 rfl) ?_
          refine lv_iload_n (pc := 99) hx hb dX1_rest_99 rfl (lv_at hl 2 rfl) ?_
          refine g_put (w1 := [(a 0, .inr (1, [.ref (a 1), .ref (a 3), .int x12, .int x11, .int (r10.1 2), .int (r10.1 3), .int (r10.1 4), .int (r10.1 5), .int 0, .int 0, .int (r10.1 8), .int r3, .int (r10.1 10), .int (r10.1 11), .int (r10.1 12)])), (a 1, .inr (2, [.ref (a 2)])), (a 2, .inl (eI E, 11, .inl r10.2.1)), (a 3, .inr (0, [.ref (a 4), .ref (a 5)])), (a 4, .inl (eJ E, 22, .inr (.inl r10.2.2.1))), (a 5, .inl (eI E, 22, .inl r10.2.2.2))]) (pc := 100) hx hb hts ii_X1_rest_X1 tyX1 tyX1_ok nmX1 hown hK.1 hP hD hS 0 rfl rfl 11 (by decide) ⟨rfl, rfl, rfl⟩ mm_X1_rest_14 rfl rfl rfl rfl (Nat.le_of_ble_eq_true rfl) rfl dX1_rest_100 (fun H locs hP hD hS => ?_)
          refine lv_aload_n (pc := 103) hx hb dX1_rest_103 rfl (lv_at hl 0 rfl) ?_
          refine lv_iload_n (pc := 104) hx hb dX1_rest_104 rfl (lv_at hl 3 rfl) ?_
          refine g_put (w1 := [(a 0, .inr (1, [.ref (a 1), .ref (a 3), .int x12, .int x11, .int (r10.1 2), .int (r10.1 3), .int (r10.1 4), .int (r10.1 5), .int 0, .int 0, .int (r10.1 8), .int r3, .int r4, .int (r10.1 11), .int (r10.1 12)])), (a 1, .inr (2, [.ref (a 2)])), (a 2, .inl (eI E, 11, .inl r10.2.1)), (a 3, .inr (0, [.ref (a 4), .ref (a 5)])), (a 4, .inl (eJ E, 22, .inr (.inl r10.2.2.1))), (a 5, .inl (eI E, 22, .inl r10.2.2.2))]) (pc := 105) hx hb hts ii_X1_rest_X1 tyX1 tyX1_ok nmX1 hown hK.1 hP hD hS 0 rfl rfl 12 (by decide) ⟨rfl, rfl, rfl⟩ mm_X1_rest_15 rfl rfl rfl rfl (Nat.le_of_ble_eq_true rfl) rfl dX1_rest_105 (fun H locs hP hD hS => ?_)
          refine lv_aload_n (pc := 108) hx hb dX1_rest_108 rfl (lv_at hl 0 rfl) ?_
          refine lv_dup (pc := 109) hx hb dX1_rest_109 rfl ?_
          refine g_get (v := .int (r10.1 8)) (pc := 110) hx hb hts ii_X1_rest_X1 hown hK.1 hP 0 rfl rfl 10 (by decide) ⟨rfl, rfl, rfl⟩ mm_X1_rest_4 rfl dX1_rest_110 ?_
          refine lv_iconst (v := 1) (pc := 113) hx hb dX1_rest_113 rfl ?_
          refine lv_iadd (pc := 114) hx hb dX1_rest_114 ?_
          refine g_topi (fun x13 ex13 => ?_)
          refine g_put (w1 := [(a 0, .inr (1, [.ref (a 1), .ref (a 3), .int x12, .int x11, .int (r10.1 2), .int (r10.1 3), .int (r10.1 4), .int (r10.1 5), .int 0, .int 0, .int x13, .int r3, .int r4, .int (r10.1 11), .int (r10.1 12)])), (a 1, .inr (2, [.ref (a 2)])), (a 2, .inl (eI E, 11, .inl r10.2.1)), (a 3, .inr (0, [.ref (a 4), .ref (a 5)])), (a 4, .inl (eJ E, 22, .inr (.inl r10.2.2.1))), (a 5, .inl (eI E, 22, .inl r10.2.2.2))]) (pc := 115) hx hb hts ii_X1_rest_X1 tyX1 tyX1_ok nmX1 hown hK.1 hP hD hS 0 rfl rfl 10 (by decide) ⟨rfl, rfl, rfl⟩ mm_X1_rest_4 rfl rfl rfl rfl (Nat.le_of_ble_eq_true rfl) rfl dX1_rest_115 (fun H locs hP hD hS => ?_)
          refine lv_aload_n (pc := 118) hx hb dX1_rest_118 rfl (lv_at hl 0 rfl) ?_
          obtain ⟨r14, er14⟩ : ∃ z : Bat, fX1_showEmpty ((upd (upd (upd (upd (upd (upd (upd r10.1 1 x11) 0 x12) 6 0) 7 0) 9 r3) 10 r4) 8 x13), r10.2.1, r10.2.2.1, r10.2.2.2) = z := ⟨_, rfl⟩
          have hr14 := kX1_showEmpty l E a ((upd (upd (upd (upd (upd (upd (upd r10.1 1 x11) 0 x12) 6 0) 7 0) 9 r3) 10 r4) 8 x13), r10.2.1, r10.2.2.1, r10.2.2.2)
          rw [er14] at hr14
          refine gcVv (pc := 119) (w1 := [(a 0, .inr (1, [.ref (a 1), .ref (a 3), .int (r14.1 0), .int (r14.1 1), .int (r14.1 2), .int (r14.1 3), .int (r14.1 4), .int (r14.1 5), .int (r14.1 6), .int (r14.1 7), .int (r14.1 8), .int (r14.1 9), .int (r14.1 10), .int (r14.1 11), .int (r14.1 12)])), (a 1, .inr (2, [.ref (a 2)])), (a 2, .inl (eI E, 11, .inl r14.2.1)), (a 3, .inr (0, [.ref (a 4), .ref (a 5)])), (a 4, .inl (eJ E, 22, .inr (.inl r14.2.2.1))), (a 5, .inl (eI E, 22, .inl r14.2.2.2))]) (pre := []) (post := []) (As := []) (rest := []) (q0 := 0) ⟨hx, hb, hml, hown, hts⟩ hr14 (cwV 0 hts gX1_rest_X1_showEmpty rfl rfl rfl qvX1_showEmpty ⟨Nat.le_of_ble_eq_true rfl, Nat.le_of_ble_eq_true rfl⟩) hK hP hD hS hA rfl rfl rfl rfl rfl hl.1 rfl (Nat.le_of_ble_eq_true rfl) dX1_rest_119 ⟨Nat.zero_le _, Nat.zero_le _⟩ (fun H locs hP hD hS => ?_)
          refine lv_aload_n (pc := 122) hx hb dX1_rest_122 rfl (lv_at hl 0 rfl) ?_
          refine g_get (v := .int (r14.1 1)) (pc := 123) hx hb hts ii_X1_rest_X1 hown hK.1 hP 0 rfl rfl 3 (by decide) ⟨rfl, rfl, rfl⟩ mm_X1_rest_5 rfl dX1_rest_123 ?_
          refine lv_aload_n (pc := 126) hx hb dX1_rest_126 rfl (lv_at hl 0 rfl) ?_
          refine g_get (v := .int (r14.1 0)) (pc := 127) hx hb hts ii_X1_rest_X1 hown hK.1 hP 0 rfl rfl 2 (by decide) ⟨rfl, rfl, rfl⟩ mm_X1_rest_11 rfl dX1_rest_127 ?_
          refine lv_isub (pc := 130) hx hb dX1_rest_130 ?_
          subst er14
          subst ex13
          subst ex12
          subst ex11
          subst er10
          subst ex8
          subst er4
          subst er3
          subst er1
          have hfn : fX1_rest B v = _ := (if_neg c_2).trans ((if_neg c_5).trans (if_neg c_6))
          rw [hfn] at hQ
          exact hQ _ _ _ _ _ rfl hP hD hS dX1_rest_131
        refine lv_if_le (tgt := 52) (pc := 43) hx hb dX1_rest_43 (by decide) (fun c_7 => ?_) (fun c_7 => ?_)
        · exact J_9 _ _ _ _ (if_pos c_7) hP hD hS (lv_sub hl [2, 3, 1, 0] rfl)
        · refine lv_aload_n (pc := 46) hx hb dX1_rest_46 rfl (lv_at hl 2 rfl) ?_
          refine lv_iload_n (pc := 47) hx hb dX1_rest_47 rfl (lv_at hl 1 rfl) ?_
          refine lv_iload_n (pc := 48) hx hb dX1_rest_48 rfl (lv_at hl 0 rfl) ?_
          obtain ⟨r8, er8⟩ : ∃ z : Bat, fX1_learnCapacity B r3 r4 = z := ⟨_, rfl⟩
          have hr8 := kX1_learnCapacity l E a B r3 r4
          rw [er8] at hr8
          refine gcVv (pc := 49) (w1 := [(a 0, .inr (1, [.ref (a 1), .ref (a 3), .int (r8.1 0), .int (r8.1 1), .int (r8.1 2), .int (r8.1 3), .int (r8.1 4), .int (r8.1 5), .int (r8.1 6), .int (r8.1 7), .int (r8.1 8), .int (r8.1 9), .int (r8.1 10), .int (r8.1 11), .int (r8.1 12)])), (a 1, .inr (2, [.ref (a 2)])), (a 2, .inl (eI E, 11, .inl r8.2.1)), (a 3, .inr (0, [.ref (a 4), .ref (a 5)])), (a 4, .inl (eJ E, 22, .inr (.inl r8.2.2.1))), (a 5, .inl (eI E, 22, .inl r8.2.2.2))]) (pre := []) (post := []) (As := [.int r3, .int r4]) (rest := []) (q0 := 0) ⟨hx, hb, hml, hown, hts⟩ hr8 (cwV 2 hts gX1_rest_X1_learnCapacity rfl rfl rfl qvX1_learnCapacity ⟨Nat.le_of_ble_eq_true rfl, Nat.le_of_ble_eq_true rfl⟩) hK hP hD hS hA rfl rfl rfl rfl rfl hl.1 rfl (Nat.le_of_ble_eq_true rfl) dX1_rest_49 ⟨Nat.zero_le _, Nat.zero_le _⟩ (fun H locs hP hD hS => ?_)
          subst er8
          exact J_9 _ _ _ _ (if_neg c_7) hP hD hS (lv_sub hl [2, 3, 1, 0] rfl)
      · refine lv_ldc (v := (-10000003)) (pc := 36) hx hb hown (hts _ mm_X1_rest_3) dX1_rest_36 ?_
        subst er4
        subst er3
        subst er1
        have hfn : fX1_rest B v = _ := (if_neg c_2).trans ((if_neg c_5).trans (if_pos c_6))
        rw [hfn] at hQ
        exact hQ _ _ _ _ _ rfl hP hD hS dX1_rest_38
  · refine lv_ldc (v := (-10000002)) (pc := 7) hx hb hown (hts _ mm_X1_rest_1) dX1_rest_7 ?_
    subst er1
    have hfn : fX1_rest B v = _ := if_pos c_2
    rw [hfn] at hQ
    exact hQ _ _ _ _ _ rfl hP hD hS dX1_rest_9

def fX1_load (B : Bat) (i : Int32) (v : Int32) : Int32 × (Bat) :=
  let r1 : Int32 := fX1_isLoad i
  if r1 = 0 then
    ((-10000002), B)
  else
    let r3 : Int32 := fX1_isVoltage v
    if r3 = 0 then
      ((-10000002), B)
    else
      let r5 : Int32 := fX1_middle B
      let r6 : Int32 := fX2_voltsAt B.2.1 r5
      let x7 : Int32 := (100 * (r6 - v)) / i
      let r8 : Int32 := fX1_signOf i
      let r9 : Int32 := fX1_tenthOf r5
      let r10 : (Nat → Int64) × (Nat → Int32) := fX0_add B.2.2.1 B.2.2.2 r8 r9 x7
      (x7, (B.1, B.2.1, r10.1, r10.2))
abbrev rX1_load : Room := { frames := 3, cells := 0, slots := 0, locals := 67 }
theorem mm_X1_load_1 : Cond.constant RX1 77 (-10000002) ∈ wsX1_load := List.mem_of_getElem? (i := 1) rfl
theorem mm_X1_load_2 : Cond.fieldLink RX1 12 "GaugeBounds$Battery" "curve" "LGaugeBounds$Curve;" ∈ wsX1_load := List.mem_of_getElem? (i := 2) rfl
theorem mm_X1_load_3 : Cond.fieldLink RX1 21 "GaugeBounds$Battery" "bands" "LGaugeBounds$Bands;" ∈ wsX1_load := List.mem_of_getElem? (i := 3) rfl
theorem ii_X1_load_X1 : ∀ w ∈ wsX10, w ∈ wsX1_load := fun _ h => List.mem_cons_of_mem _ (List.mem_append_left _ (List.mem_append_left _ (List.mem_append_right _ (h))))
theorem qvX1_load : yX1_load.cls = RX1 ∧ yX1_load.cls ≠ "java/lang/invoke/MethodHandle" ∧ yX1_load.cls ≠ "java/lang/invoke/VarHandle" ∧ (parseMethodDescriptor yX1_load.desc).map (fun d => d.parameters.length) = some 2 := by decide +kernel
set_option maxHeartbeats 4000000 in
set_option maxRecDepth 100000 in
theorem kX1_load (l : Launch) (E : gEnv) (a : Nat → Nat) (B : Bat) (i : Int32) (v : Int32) : gMi l E yX1_load wsX1_load rX1_load [.ref (a 0), .int i, .int v] (wB E a B) (fX1_load B i v).1 (wB E a ((fX1_load B i v).2)) := by
  refine gMi_of (cc := cX1_load) (maxL := 5) (ret := (some .int)) (by decide) rfl rfl (Nat.le_of_ble_eq_true rfl) ?_
  intro p e s m args below meth c A Q ls hB hQ
  obtain ⟨hx, hb, hml, hown, hts, hK, hP, hD, hA, hS, hl⟩ := hB
  have hown : s.vm.findClass RX1 = some m.cls := hown
  have hP : va_P E.1 vwCl [(a 0, .inr (1, [.ref (a 1), .ref (a 3), .int (B.1 0), .int (B.1 1), .int (B.1 2), .int (B.1 3), .int (B.1 4), .int (B.1 5), .int (B.1 6), .int (B.1 7), .int (B.1 8), .int (B.1 9), .int (B.1 10), .int (B.1 11), .int (B.1 12)])), (a 1, .inr (2, [.ref (a 2)])), (a 2, .inl (eI E, 11, .inl B.2.1)), (a 3, .inr (0, [.ref (a 4), .ref (a 5)])), (a 4, .inl (eJ E, 22, .inr (.inl B.2.2.1))), (a 5, .inl (eI E, 22, .inl B.2.2.2))] s.heap := hP
  have hD : va_D A [(a 0, .inr (1, [.ref (a 1), .ref (a 3), .int (B.1 0), .int (B.1 1), .int (B.1 2), .int (B.1 3), .int (B.1 4), .int (B.1 5), .int (B.1 6), .int (B.1 7), .int (B.1 8), .int (B.1 9), .int (B.1 10), .int (B.1 11), .int (B.1 12)])), (a 1, .inr (2, [.ref (a 2)])), (a 2, .inl (eI E, 11, .inl B.2.1)), (a 3, .inr (0, [.ref (a 4), .ref (a 5)])), (a 4, .inl (eJ E, 22, .inr (.inl B.2.2.1))), (a 5, .inl (eI E, 22, .inl B.2.2.2))] := hD
  have hl : lv_has ls 5 [(0, .ref (a 0)), (1, .int i), (2, .int v)] := hl
  refine lv_iload_n (pc := 0) hx hb dX1_load_0 rfl (lv_at hl 1 rfl) ?_
  obtain ⟨r1, er1⟩ : ∃ z : Int32, fX1_isLoad i = z := ⟨_, rfl⟩
  have hr1 := kX1_isLoad l E i
  rw [er1] at hr1
  refine gcSi (pc := 1) (As := [.int i]) (rest := []) ⟨hx, hb, hml, hown, hts⟩ hr1 (cwS 1 hts gX1_load_X1_isLoad rfl rfl rfl qsX1_isLoad ⟨Nat.le_of_ble_eq_true rfl, Nat.le_of_ble_eq_true rfl⟩) hK hP hD hS hA rfl hl.1 rfl (Nat.le_of_ble_eq_true rfl) dX1_load_1 ⟨Nat.zero_le _, Nat.zero_le _⟩ (fun H locs hP hD hS => ?_)
  refine lv_if_eq (tgt := 14) (pc := 4) hx hb dX1_load_4 (by decide) (fun c_2 => ?_) (fun c_2 => ?_)
  · refine lv_ldc (v := (-10000002)) (pc := 14) hx hb hown (hts _ mm_X1_load_1) dX1_load_14 ?_
    subst er1
    have hfn : fX1_load B i v = _ := if_pos c_2
    rw [hfn] at hQ
    exact hQ _ _ _ _ _ rfl hP hD hS dX1_load_16
  · refine lv_iload_n (pc := 7) hx hb dX1_load_7 rfl (lv_at hl 2 rfl) ?_
    obtain ⟨r3, er3⟩ : ∃ z : Int32, fX1_isVoltage v = z := ⟨_, rfl⟩
    have hr3 := kX1_isVoltage l E v
    rw [er3] at hr3
    refine gcSi (pc := 8) (As := [.int v]) (rest := []) ⟨hx, hb, hml, hown, hts⟩ hr3 (cwS 1 hts gX1_load_X1_isVoltage rfl rfl rfl qsX1_isVoltage ⟨Nat.le_of_ble_eq_true rfl, Nat.le_of_ble_eq_true rfl⟩) hK hP hD hS hA rfl hl.1 rfl (Nat.le_of_ble_eq_true rfl) dX1_load_8 ⟨Nat.zero_le _, Nat.zero_le _⟩ (fun H locs hP hD hS => ?_)
    refine lv_if_ne (tgt := 17) (pc := 11) hx hb dX1_load_11 (by decide) (fun c_4 => ?_) (fun c_4 => ?_)
    · refine lv_aload_n (pc := 17) hx hb dX1_load_17 rfl (lv_at hl 0 rfl) ?_
      obtain ⟨r5, er5⟩ : ∃ z : Int32, fX1_middle B = z := ⟨_, rfl⟩
      have hr5 := kX1_middle l E a B
      rw [er5] at hr5
      refine gcVi (pc := 18) (w1 := [(a 0, .inr (1, [.ref (a 1), .ref (a 3), .int (B.1 0), .int (B.1 1), .int (B.1 2), .int (B.1 3), .int (B.1 4), .int (B.1 5), .int (B.1 6), .int (B.1 7), .int (B.1 8), .int (B.1 9), .int (B.1 10), .int (B.1 11), .int (B.1 12)])), (a 1, .inr (2, [.ref (a 2)])), (a 2, .inl (eI E, 11, .inl B.2.1)), (a 3, .inr (0, [.ref (a 4), .ref (a 5)])), (a 4, .inl (eJ E, 22, .inr (.inl B.2.2.1))), (a 5, .inl (eI E, 22, .inl B.2.2.2))]) (pre := []) (post := []) (As := []) (rest := []) (q0 := 0) ⟨hx, hb, hml, hown, hts⟩ hr5 (cwV 0 hts gX1_load_X1_middle rfl rfl rfl qvX1_middle ⟨Nat.le_of_ble_eq_true rfl, Nat.le_of_ble_eq_true rfl⟩) hK hP hD hS hA rfl rfl rfl rfl rfl hl.1 rfl (Nat.le_of_ble_eq_true rfl) dX1_load_18 ⟨Nat.zero_le _, Nat.zero_le _⟩ (fun H locs hP hD hS => ?_)
      refine lv_istore_n (lv' := [(3, .int r5), (0, .ref (a 0)), (1, .int i), (2, .int v)]) (pc := 21) hx hb dX1_load_21 rfl hl (by decide) rfl (fun ls hl => ?_)
      refine lv_bipush (v := 100) (pc := 22) hx hb dX1_load_22 rfl ?_
      refine lv_aload_n (pc := 24) hx hb dX1_load_24 rfl (lv_at hl 1 rfl) ?_
      refine g_get (v := .ref (a 1)) (pc := 25) hx hb hts ii_X1_load_X1 hown hK.1 hP 0 rfl rfl 0 (by decide) ⟨rfl, rfl, rfl⟩ mm_X1_load_2 rfl dX1_load_25 ?_
      refine lv_iload_n (pc := 28) hx hb dX1_load_28 rfl (lv_at hl 0 rfl) ?_
      obtain ⟨r6, er6⟩ : ∃ z : Int32, fX2_voltsAt B.2.1 r5 = z := ⟨_, rfl⟩
      have hr6 := kX2_voltsAt l E (a 1) (a 2) B.2.1 r5
      rw [er6] at hr6
      refine gcVi (pc := 29) (w1 := [(a 0, .inr (1, [.ref (a 1), .ref (a 3), .int (B.1 0), .int (B.1 1), .int (B.1 2), .int (B.1 3), .int (B.1 4), .int (B.1 5), .int (B.1 6), .int (B.1 7), .int (B.1 8), .int (B.1 9), .int (B.1 10), .int (B.1 11), .int (B.1 12)])), (a 1, .inr (2, [.ref (a 2)])), (a 2, .inl (eI E, 11, .inl B.2.1)), (a 3, .inr (0, [.ref (a 4), .ref (a 5)])), (a 4, .inl (eJ E, 22, .inr (.inl B.2.2.1))), (a 5, .inl (eI E, 22, .inl B.2.2.2))]) (pre := [(a 0, .inr (1, [.ref (a 1), .ref (a 3), .int (B.1 0), .int (B.1 1), .int (B.1 2), .int (B.1 3), .int (B.1 4), .int (B.1 5), .int (B.1 6), .int (B.1 7), .int (B.1 8), .int (B.1 9), .int (B.1 10), .int (B.1 11), .int (B.1 12)]))]) (post := [(a 3, .inr (0, [.ref (a 4), .ref (a 5)])), (a 4, .inl (eJ E, 22, .inr (.inl B.2.2.1))), (a 5, .inl (eI E, 22, .inl B.2.2.2))]) (As := [.int r5]) (rest := [.int 100]) (q0 := 0) ⟨hx, hb, hml, hown, hts⟩ hr6 (cwV 1 hts gX1_load_X2_voltsAt rfl rfl rfl qvX2_voltsAt ⟨Nat.le_of_ble_eq_true rfl, Nat.le_of_ble_eq_true rfl⟩) hK hP hD hS hA rfl rfl rfl rfl rfl hl.1 rfl (Nat.le_of_ble_eq_true rfl) dX1_load_29 ⟨Nat.zero_le _, Nat.zero_le _⟩ (fun H locs hP hD hS => ?_)
      refine lv_iload_n (pc := 32) hx hb dX1_load_32 rfl (lv_at hl 3 rfl) ?_
      refine lv_isub (pc := 33) hx hb dX1_load_33 ?_
      refine lv_imul (pc := 34) hx hb dX1_load_34 ?_
      refine lv_iload_n (pc := 35) hx hb dX1_load_35 rfl (lv_at hl 2 rfl) ?_
      refine lv_idiv (pc := 36) hx hb dX1_load_36 (by subst er1; simp only [fX1_isLoad, bz_0] at c_2; exact fun h => c_2 (fun g => g.1 h)) ?_
      refine g_topi (fun x7 ex7 => ?_)
      refine lv_istore (lv' := [(4, .int x7), (3, .int r5), (0, .ref (a 0)), (1, .int i), (2, .int v)]) (pc := 37) hx hb dX1_load_37 hl (by decide) rfl (fun ls hl => ?_)
      refine lv_aload_n (pc := 39) hx hb dX1_load_39 rfl (lv_at hl 2 rfl) ?_
      refine g_get (v := .ref (a 3)) (pc := 40) hx hb hts ii_X1_load_X1 hown hK.1 hP 0 rfl rfl 1 (by decide) ⟨rfl, rfl, rfl⟩ mm_X1_load_3 rfl dX1_load_40 ?_
      refine lv_iload_n (pc := 43) hx hb dX1_load_43 rfl (lv_at hl 3 rfl) ?_
      obtain ⟨r8, er8⟩ : ∃ z : Int32, fX1_signOf i = z := ⟨_, rfl⟩
      have hr8 := kX1_signOf l E i
      rw [er8] at hr8
      refine gcSi (pc := 44) (As := [.int i]) (rest := [.ref (a 3)]) ⟨hx, hb, hml, hown, hts⟩ hr8 (cwS 1 hts gX1_load_X1_signOf rfl rfl rfl qsX1_signOf ⟨Nat.le_of_ble_eq_true rfl, Nat.le_of_ble_eq_true rfl⟩) hK hP hD hS hA rfl hl.1 rfl (Nat.le_of_ble_eq_true rfl) dX1_load_44 ⟨Nat.zero_le _, Nat.zero_le _⟩ (fun H locs hP hD hS => ?_)
      refine lv_iload_n (pc := 47) hx hb dX1_load_47 rfl (lv_at hl 1 rfl) ?_
      obtain ⟨r9, er9⟩ : ∃ z : Int32, fX1_tenthOf r5 = z := ⟨_, rfl⟩
      have hr9 := kX1_tenthOf l E r5
      rw [er9] at hr9
      refine gcSi (pc := 48) (As := [.int r5]) (rest := [.int r8, .ref (a 3)]) ⟨hx, hb, hml, hown, hts⟩ hr9 (cwS 1 hts gX1_load_X1_tenthOf rfl rfl rfl qsX1_tenthOf ⟨Nat.le_of_ble_eq_true rfl, Nat.le_of_ble_eq_true rfl⟩) hK hP hD hS hA rfl hl.1 rfl (Nat.le_of_ble_eq_true rfl) dX1_load_48 ⟨Nat.zero_le _, Nat.zero_le _⟩ (fun H locs hP hD hS => ?_)
      refine lv_iload (pc := 51) hx hb dX1_load_51 (lv_at hl 0 rfl) ?_
      obtain ⟨r10, er10⟩ : ∃ z : (Nat → Int64) × (Nat → Int32), fX0_add B.2.2.1 B.2.2.2 r8 r9 x7 = z := ⟨_, rfl⟩
      have hr10 := kX0_add l E (a 3) (a 4) (a 5) B.2.2.1 B.2.2.2 r8 r9 x7
      rw [er10] at hr10
      refine gcVv (pc := 53) (w1 := [(a 0, .inr (1, [.ref (a 1), .ref (a 3), .int (B.1 0), .int (B.1 1), .int (B.1 2), .int (B.1 3), .int (B.1 4), .int (B.1 5), .int (B.1 6), .int (B.1 7), .int (B.1 8), .int (B.1 9), .int (B.1 10), .int (B.1 11), .int (B.1 12)])), (a 1, .inr (2, [.ref (a 2)])), (a 2, .inl (eI E, 11, .inl B.2.1)), (a 3, .inr (0, [.ref (a 4), .ref (a 5)])), (a 4, .inl (eJ E, 22, .inr (.inl r10.1))), (a 5, .inl (eI E, 22, .inl r10.2))]) (pre := [(a 0, .inr (1, [.ref (a 1), .ref (a 3), .int (B.1 0), .int (B.1 1), .int (B.1 2), .int (B.1 3), .int (B.1 4), .int (B.1 5), .int (B.1 6), .int (B.1 7), .int (B.1 8), .int (B.1 9), .int (B.1 10), .int (B.1 11), .int (B.1 12)])), (a 1, .inr (2, [.ref (a 2)])), (a 2, .inl (eI E, 11, .inl B.2.1))]) (post := []) (As := [.int r8, .int r9, .int x7]) (rest := []) (q0 := 0) ⟨hx, hb, hml, hown, hts⟩ hr10 (cwV 3 hts gX1_load_X0_add rfl rfl rfl qvX0_add ⟨Nat.le_of_ble_eq_true rfl, Nat.le_of_ble_eq_true rfl⟩) hK hP hD hS hA rfl rfl rfl rfl rfl hl.1 rfl (Nat.le_of_ble_eq_true rfl) dX1_load_53 ⟨Nat.zero_le _, Nat.zero_le _⟩ (fun H locs hP hD hS => ?_)
      refine lv_iload (pc := 56) hx hb dX1_load_56 (lv_at hl 0 rfl) ?_
      subst er10
      subst er9
      subst er8
      subst ex7
      subst er6
      subst er5
      subst er3
      subst er1
      have hfn : fX1_load B i v = _ := (if_neg c_2).trans (if_neg c_4)
      rw [hfn] at hQ
      exact hQ _ _ _ _ _ rfl hP hD hS dX1_load_58
    · refine lv_ldc (v := (-10000002)) (pc := 14) hx hb hown (hts _ mm_X1_load_1) dX1_load_14 ?_
      subst er3
      subst er1
      have hfn : fX1_load B i v = _ := (if_neg c_2).trans (if_pos c_4)
      rw [hfn] at hQ
      exact hQ _ _ _ _ _ rfl hP hD hS dX1_load_16

def fX1_tell (B : Bat) (w : Int32) : Int32 :=
  if w = 0 then
    B.1 0
  else
    if w = 1 then
      B.1 1
    else
      if w = 2 then
        B.1 2
      else
        if w = 3 then
          B.1 3
        else
          if w = 4 then
            let r6 : Int32 := fX1_middle B
            r6
          else
            if w = 5 then
              B.1 12
            else
              if w = 6 then
                B.1 6
              else
                if w = 7 then
                  B.1 7
                else
                  if w = 8 then
                    B.1 11
                  else
                    if w = 9 then
                      B.1 8
                    else
                      if w = 10 then
                        B.1 9
                      else
                        if w = 11 then
                          B.1 10
                        else
                          (-10000002)
abbrev rX1_tell : Room := { frames := 2, cells := 0, slots := 0, locals := 34 }
theorem mm_X1_tell_1 : Cond.fieldLink RX1 58 "GaugeBounds$Battery" "low" "I" ∈ wsX1_tell := List.mem_of_getElem? (i := 1) rfl
theorem mm_X1_tell_2 : Cond.fieldLink RX1 25 "GaugeBounds$Battery" "high" "I" ∈ wsX1_tell := List.mem_of_getElem? (i := 2) rfl
theorem mm_X1_tell_3 : Cond.fieldLink RX1 29 "GaugeBounds$Battery" "leastCapacity" "I" ∈ wsX1_tell := List.mem_of_getElem? (i := 3) rfl
theorem mm_X1_tell_4 : Cond.fieldLink RX1 32 "GaugeBounds$Battery" "mostCapacity" "I" ∈ wsX1_tell := List.mem_of_getElem? (i := 4) rfl
theorem mm_X1_tell_5 : Cond.fieldLink RX1 48 "GaugeBounds$Battery" "shown" "I" ∈ wsX1_tell := List.mem_of_getElem? (i := 5) rfl
theorem mm_X1_tell_6 : Cond.fieldLink RX1 61 "GaugeBounds$Battery" "drawn" "I" ∈ wsX1_tell := List.mem_of_getElem? (i := 6) rfl
theorem mm_X1_tell_7 : Cond.fieldLink RX1 64 "GaugeBounds$Battery" "steps" "I" ∈ wsX1_tell := List.mem_of_getElem? (i := 7) rfl
theorem mm_X1_tell_8 : Cond.fieldLink RX1 70 "GaugeBounds$Battery" "clashes" "I" ∈ wsX1_tell := List.mem_of_getElem? (i := 8) rfl
theorem mm_X1_tell_9 : Cond.fieldLink RX1 67 "GaugeBounds$Battery" "rests" "I" ∈ wsX1_tell := List.mem_of_getElem? (i := 9) rfl
theorem mm_X1_tell_10 : Cond.fieldLink RX1 42 "GaugeBounds$Battery" "lastA" "I" ∈ wsX1_tell := List.mem_of_getElem? (i := 10) rfl
theorem mm_X1_tell_11 : Cond.fieldLink RX1 45 "GaugeBounds$Battery" "lastB" "I" ∈ wsX1_tell := List.mem_of_getElem? (i := 11) rfl
theorem mm_X1_tell_12 : Cond.constant RX1 77 (-10000002) ∈ wsX1_tell := List.mem_of_getElem? (i := 12) rfl
theorem ii_X1_tell_X1 : ∀ w ∈ wsX10, w ∈ wsX1_tell := fun _ h => List.mem_cons_of_mem _ (List.mem_append_right _ (h))
theorem qvX1_tell : yX1_tell.cls = RX1 ∧ yX1_tell.cls ≠ "java/lang/invoke/MethodHandle" ∧ yX1_tell.cls ≠ "java/lang/invoke/VarHandle" ∧ (parseMethodDescriptor yX1_tell.desc).map (fun d => d.parameters.length) = some 1 := by decide +kernel
set_option maxHeartbeats 4000000 in
set_option maxRecDepth 100000 in
theorem kX1_tell (l : Launch) (E : gEnv) (a : Nat → Nat) (B : Bat) (w : Int32) : gMi l E yX1_tell wsX1_tell rX1_tell [.ref (a 0), .int w] (wB E a B) (fX1_tell B w) (wB E a B) := by
  refine gMi_of (cc := cX1_tell) (maxL := 2) (ret := (some .int)) (by decide) rfl rfl (Nat.le_of_ble_eq_true rfl) ?_
  intro p e s m args below meth c A Q ls hB hQ
  obtain ⟨hx, hb, hml, hown, hts, hK, hP, hD, hA, hS, hl⟩ := hB
  have hown : s.vm.findClass RX1 = some m.cls := hown
  have hP : va_P E.1 vwCl [(a 0, .inr (1, [.ref (a 1), .ref (a 3), .int (B.1 0), .int (B.1 1), .int (B.1 2), .int (B.1 3), .int (B.1 4), .int (B.1 5), .int (B.1 6), .int (B.1 7), .int (B.1 8), .int (B.1 9), .int (B.1 10), .int (B.1 11), .int (B.1 12)])), (a 1, .inr (2, [.ref (a 2)])), (a 2, .inl (eI E, 11, .inl B.2.1)), (a 3, .inr (0, [.ref (a 4), .ref (a 5)])), (a 4, .inl (eJ E, 22, .inr (.inl B.2.2.1))), (a 5, .inl (eI E, 22, .inl B.2.2.2))] s.heap := hP
  have hD : va_D A [(a 0, .inr (1, [.ref (a 1), .ref (a 3), .int (B.1 0), .int (B.1 1), .int (B.1 2), .int (B.1 3), .int (B.1 4), .int (B.1 5), .int (B.1 6), .int (B.1 7), .int (B.1 8), .int (B.1 9), .int (B.1 10), .int (B.1 11), .int (B.1 12)])), (a 1, .inr (2, [.ref (a 2)])), (a 2, .inl (eI E, 11, .inl B.2.1)), (a 3, .inr (0, [.ref (a 4), .ref (a 5)])), (a 4, .inl (eJ E, 22, .inr (.inl B.2.2.1))), (a 5, .inl (eI E, 22, .inl B.2.2.2))] := hD
  have hl : lv_has ls 2 [(0, .ref (a 0)), (1, .int w)] := hl
  refine lv_iload_n (pc := 0) hx hb dX1_tell_0 rfl (lv_at hl 1 rfl) ?_
  by_cases c_1 : w = 0
  · refine lv_tableIn (tgt := 64) (pc := 1) hx hb dX1_tell_1 (by rw [c_1]; decide) (by rw [c_1]; decide) (by rw [c_1] <;> rfl) (by decide) ?_
    refine lv_aload_n (pc := 64) hx hb dX1_tell_64 rfl (lv_at hl 0 rfl) ?_
    refine g_get (v := .int (B.1 0)) (pc := 65) hx hb hts ii_X1_tell_X1 hown hK.1 hP 0 rfl rfl 2 (by decide) ⟨rfl, rfl, rfl⟩ mm_X1_tell_1 rfl dX1_tell_65 ?_
    have hfn : fX1_tell B w = _ := if_pos c_1
    rw [hfn] at hQ
    exact hQ _ _ _ _ _ rfl hP hD hS dX1_tell_68
  by_cases c_2 : w = 1
  · refine lv_tableIn (tgt := 69) (pc := 1) hx hb dX1_tell_1 (by rw [c_2]; decide) (by rw [c_2]; decide) (by rw [c_2] <;> rfl) (by decide) ?_
    refine lv_aload_n (pc := 69) hx hb dX1_tell_69 rfl (lv_at hl 0 rfl) ?_
    refine g_get (v := .int (B.1 1)) (pc := 70) hx hb hts ii_X1_tell_X1 hown hK.1 hP 0 rfl rfl 3 (by decide) ⟨rfl, rfl, rfl⟩ mm_X1_tell_2 rfl dX1_tell_70 ?_
    have hfn : fX1_tell B w = _ := (if_neg c_1).trans (if_pos c_2)
    rw [hfn] at hQ
    exact hQ _ _ _ _ _ rfl hP hD hS dX1_tell_73
  by_cases c_3 : w = 2
  · refine lv_tableIn (tgt := 74) (pc := 1) hx hb dX1_tell_1 (by rw [c_3]; decide) (by rw [c_3]; decide) (by rw [c_3] <;> rfl) (by decide) ?_
    refine lv_aload_n (pc := 74) hx hb dX1_tell_74 rfl (lv_at hl 0 rfl) ?_
    refine g_get (v := .int (B.1 2)) (pc := 75) hx hb hts ii_X1_tell_X1 hown hK.1 hP 0 rfl rfl 4 (by decide) ⟨rfl, rfl, rfl⟩ mm_X1_tell_3 rfl dX1_tell_75 ?_
    have hfn : fX1_tell B w = _ := (if_neg c_1).trans ((if_neg c_2).trans (if_pos c_3))
    rw [hfn] at hQ
    exact hQ _ _ _ _ _ rfl hP hD hS dX1_tell_78
  by_cases c_4 : w = 3
  · refine lv_tableIn (tgt := 79) (pc := 1) hx hb dX1_tell_1 (by rw [c_4]; decide) (by rw [c_4]; decide) (by rw [c_4] <;> rfl) (by decide) ?_
    refine lv_aload_n (pc := 79) hx hb dX1_tell_79 rfl (lv_at hl 0 rfl) ?_
    refine g_get (v := .int (B.1 3)) (pc := 80) hx hb hts ii_X1_tell_X1 hown hK.1 hP 0 rfl rfl 5 (by decide) ⟨rfl, rfl, rfl⟩ mm_X1_tell_4 rfl dX1_tell_80 ?_
    have hfn : fX1_tell B w = _ := (if_neg c_1).trans ((if_neg c_2).trans ((if_neg c_3).trans (if_pos c_4)))
    rw [hfn] at hQ
    exact hQ _ _ _ _ _ rfl hP hD hS dX1_tell_83
  by_cases c_5 : w = 4
  · refine lv_tableIn (tgt := 84) (pc := 1) hx hb dX1_tell_1 (by rw [c_5]; decide) (by rw [c_5]; decide) (by rw [c_5] <;> rfl) (by decide) ?_
    refine lv_aload_n (pc := 84) hx hb dX1_tell_84 rfl (lv_at hl 0 rfl) ?_
    obtain ⟨r6, er6⟩ : ∃ z : Int32, fX1_middle B = z := ⟨_, rfl⟩
    have hr6 := kX1_middle l E a B
    rw [er6] at hr6
    refine gcVi (pc := 85) (w1 := [(a 0, .inr (1, [.ref (a 1), .ref (a 3), .int (B.1 0), .int (B.1 1), .int (B.1 2), .int (B.1 3), .int (B.1 4), .int (B.1 5), .int (B.1 6), .int (B.1 7), .int (B.1 8), .int (B.1 9), .int (B.1 10), .int (B.1 11), .int (B.1 12)])), (a 1, .inr (2, [.ref (a 2)])), (a 2, .inl (eI E, 11, .inl B.2.1)), (a 3, .inr (0, [.ref (a 4), .ref (a 5)])), (a 4, .inl (eJ E, 22, .inr (.inl B.2.2.1))), (a 5, .inl (eI E, 22, .inl B.2.2.2))]) (pre := []) (post := []) (As := []) (rest := []) (q0 := 0) ⟨hx, hb, hml, hown, hts⟩ hr6 (cwV 0 hts gX1_tell_X1_middle rfl rfl rfl qvX1_middle ⟨Nat.le_of_ble_eq_true rfl, Nat.le_of_ble_eq_true rfl⟩) hK hP hD hS hA rfl rfl rfl rfl rfl hl.1 rfl (Nat.le_of_ble_eq_true rfl) dX1_tell_85 ⟨Nat.zero_le _, Nat.zero_le _⟩ (fun H locs hP hD hS => ?_)
    subst er6
    have hfn : fX1_tell B w = _ := (if_neg c_1).trans ((if_neg c_2).trans ((if_neg c_3).trans ((if_neg c_4).trans (if_pos c_5))))
    rw [hfn] at hQ
    exact hQ _ _ _ _ _ rfl hP hD hS dX1_tell_88
  by_cases c_7 : w = 5
  · refine lv_tableIn (tgt := 89) (pc := 1) hx hb dX1_tell_1 (by rw [c_7]; decide) (by rw [c_7]; decide) (by rw [c_7] <;> rfl) (by decide) ?_
    refine lv_aload_n (pc := 89) hx hb dX1_tell_89 rfl (lv_at hl 0 rfl) ?_
    refine g_get (v := .int (B.1 12)) (pc := 90) hx hb hts ii_X1_tell_X1 hown hK.1 hP 0 rfl rfl 14 (by decide) ⟨rfl, rfl, rfl⟩ mm_X1_tell_5 rfl dX1_tell_90 ?_
    have hfn : fX1_tell B w = _ := (if_neg c_1).trans ((if_neg c_2).trans ((if_neg c_3).trans ((if_neg c_4).trans ((if_neg c_5).trans (if_pos c_7)))))
    rw [hfn] at hQ
    exact hQ _ _ _ _ _ rfl hP hD hS dX1_tell_93
  by_cases c_8 : w = 6
  · refine lv_tableIn (tgt := 94) (pc := 1) hx hb dX1_tell_1 (by rw [c_8]; decide) (by rw [c_8]; decide) (by rw [c_8] <;> rfl) (by decide) ?_
    refine lv_aload_n (pc := 94) hx hb dX1_tell_94 rfl (lv_at hl 0 rfl) ?_
    refine g_get (v := .int (B.1 6)) (pc := 95) hx hb hts ii_X1_tell_X1 hown hK.1 hP 0 rfl rfl 8 (by decide) ⟨rfl, rfl, rfl⟩ mm_X1_tell_6 rfl dX1_tell_95 ?_
    have hfn : fX1_tell B w = _ := (if_neg c_1).trans ((if_neg c_2).trans ((if_neg c_3).trans ((if_neg c_4).trans ((if_neg c_5).trans ((if_neg c_7).trans (if_pos c_8))))))
    rw [hfn] at hQ
    exact hQ _ _ _ _ _ rfl hP hD hS dX1_tell_98
  by_cases c_9 : w = 7
  · refine lv_tableIn (tgt := 99) (pc := 1) hx hb dX1_tell_1 (by rw [c_9]; decide) (by rw [c_9]; decide) (by rw [c_9] <;> rfl) (by decide) ?_
    refine lv_aload_n (pc := 99) hx hb dX1_tell_99 rfl (lv_at hl 0 rfl) ?_
    refine g_get (v := .int (B.1 7)) (pc := 100) hx hb hts ii_X1_tell_X1 hown hK.1 hP 0 rfl rfl 9 (by decide) ⟨rfl, rfl, rfl⟩ mm_X1_tell_7 rfl dX1_tell_100 ?_
    have hfn : fX1_tell B w = _ := (if_neg c_1).trans ((if_neg c_2).trans ((if_neg c_3).trans ((if_neg c_4).trans ((if_neg c_5).trans ((if_neg c_7).trans ((if_neg c_8).trans (if_pos c_9)))))))
    rw [hfn] at hQ
    exact hQ _ _ _ _ _ rfl hP hD hS dX1_tell_103
  by_cases c_10 : w = 8
  · refine lv_tableIn (tgt := 104) (pc := 1) hx hb dX1_tell_1 (by rw [c_10]; decide) (by rw [c_10]; decide) (by rw [c_10] <;> rfl) (by decide) ?_
    refine lv_aload_n (pc := 104) hx hb dX1_tell_104 rfl (lv_at hl 0 rfl) ?_
    refine g_get (v := .int (B.1 11)) (pc := 105) hx hb hts ii_X1_tell_X1 hown hK.1 hP 0 rfl rfl 13 (by decide) ⟨rfl, rfl, rfl⟩ mm_X1_tell_8 rfl dX1_tell_105 ?_
    have hfn : fX1_tell B w = _ := (if_neg c_1).trans ((if_neg c_2).trans ((if_neg c_3).trans ((if_neg c_4).trans ((if_neg c_5).trans ((if_neg c_7).trans ((if_neg c_8).trans ((if_neg c_9).trans (if_pos c_10))))))))
    rw [hfn] at hQ
    exact hQ _ _ _ _ _ rfl hP hD hS dX1_tell_108
  by_cases c_11 : w = 9
  · refine lv_tableIn (tgt := 109) (pc := 1) hx hb dX1_tell_1 (by rw [c_11]; decide) (by rw [c_11]; decide) (by rw [c_11] <;> rfl) (by decide) ?_
    refine lv_aload_n (pc := 109) hx hb dX1_tell_109 rfl (lv_at hl 0 rfl) ?_
    refine g_get (v := .int (B.1 8)) (pc := 110) hx hb hts ii_X1_tell_X1 hown hK.1 hP 0 rfl rfl 10 (by decide) ⟨rfl, rfl, rfl⟩ mm_X1_tell_9 rfl dX1_tell_110 ?_
    have hfn : fX1_tell B w = _ := (if_neg c_1).trans ((if_neg c_2).trans ((if_neg c_3).trans ((if_neg c_4).trans ((if_neg c_5).trans ((if_neg c_7).trans ((if_neg c_8).trans ((if_neg c_9).trans ((if_neg c_10).trans (if_pos c_11)))))))))
    rw [hfn] at hQ
    exact hQ _ _ _ _ _ rfl hP hD hS dX1_tell_113
  by_cases c_12 : w = 10
  · refine lv_tableIn (tgt := 114) (pc := 1) hx hb dX1_tell_1 (by rw [c_12]; decide) (by rw [c_12]; decide) (by rw [c_12] <;> rfl) (by decide) ?_
    refine lv_aload_n (pc := 114) hx hb dX1_tell_114 rfl (lv_at hl 0 rfl) ?_
    refine g_get (v := .int (B.1 9)) (pc := 115) hx hb hts ii_X1_tell_X1 hown hK.1 hP 0 rfl rfl 11 (by decide) ⟨rfl, rfl, rfl⟩ mm_X1_tell_10 rfl dX1_tell_115 ?_
    have hfn : fX1_tell B w = _ := (if_neg c_1).trans ((if_neg c_2).trans ((if_neg c_3).trans ((if_neg c_4).trans ((if_neg c_5).trans ((if_neg c_7).trans ((if_neg c_8).trans ((if_neg c_9).trans ((if_neg c_10).trans ((if_neg c_11).trans (if_pos c_12))))))))))
    rw [hfn] at hQ
    exact hQ _ _ _ _ _ rfl hP hD hS dX1_tell_118
  by_cases c_13 : w = 11
  · refine lv_tableIn (tgt := 119) (pc := 1) hx hb dX1_tell_1 (by rw [c_13]; decide) (by rw [c_13]; decide) (by rw [c_13] <;> rfl) (by decide) ?_
    refine lv_aload_n (pc := 119) hx hb dX1_tell_119 rfl (lv_at hl 0 rfl) ?_
    refine g_get (v := .int (B.1 10)) (pc := 120) hx hb hts ii_X1_tell_X1 hown hK.1 hP 0 rfl rfl 12 (by decide) ⟨rfl, rfl, rfl⟩ mm_X1_tell_11 rfl dX1_tell_120 ?_
    have hfn : fX1_tell B w = _ := (if_neg c_1).trans ((if_neg c_2).trans ((if_neg c_3).trans ((if_neg c_4).trans ((if_neg c_5).trans ((if_neg c_7).trans ((if_neg c_8).trans ((if_neg c_9).trans ((if_neg c_10).trans ((if_neg c_11).trans ((if_neg c_12).trans (if_pos c_13)))))))))))
    rw [hfn] at hQ
    exact hQ _ _ _ _ _ rfl hP hD hS dX1_tell_123
  have tc_1 : ¬ w.toInt = 0 := fun h => c_1 (Int32.toInt_inj.mp (h.trans (by decide)))
  have tc_2 : ¬ w.toInt = 1 := fun h => c_2 (Int32.toInt_inj.mp (h.trans (by decide)))
  have tc_3 : ¬ w.toInt = 2 := fun h => c_3 (Int32.toInt_inj.mp (h.trans (by decide)))
  have tc_4 : ¬ w.toInt = 3 := fun h => c_4 (Int32.toInt_inj.mp (h.trans (by decide)))
  have tc_5 : ¬ w.toInt = 4 := fun h => c_5 (Int32.toInt_inj.mp (h.trans (by decide)))
  have tc_7 : ¬ w.toInt = 5 := fun h => c_7 (Int32.toInt_inj.mp (h.trans (by decide)))
  have tc_8 : ¬ w.toInt = 6 := fun h => c_8 (Int32.toInt_inj.mp (h.trans (by decide)))
  have tc_9 : ¬ w.toInt = 7 := fun h => c_9 (Int32.toInt_inj.mp (h.trans (by decide)))
  have tc_10 : ¬ w.toInt = 8 := fun h => c_10 (Int32.toInt_inj.mp (h.trans (by decide)))
  have tc_11 : ¬ w.toInt = 9 := fun h => c_11 (Int32.toInt_inj.mp (h.trans (by decide)))
  have tc_12 : ¬ w.toInt = 10 := fun h => c_12 (Int32.toInt_inj.mp (h.trans (by decide)))
  have tc_13 : ¬ w.toInt = 11 := fun h => c_13 (Int32.toInt_inj.mp (h.trans (by decide)))
  refine lv_tableOut (tgt := 124) (pc := 1) hx hb dX1_tell_1 (by omega) (by decide) ?_
  refine lv_ldc (v := (-10000002)) (pc := 124) hx hb hown (hts _ mm_X1_tell_12) dX1_tell_124 ?_
  have hfn : fX1_tell B w = _ := (if_neg c_1).trans ((if_neg c_2).trans ((if_neg c_3).trans ((if_neg c_4).trans ((if_neg c_5).trans ((if_neg c_7).trans ((if_neg c_8).trans ((if_neg c_9).trans ((if_neg c_10).trans ((if_neg c_11).trans ((if_neg c_12).trans (if_neg c_13)))))))))))
  rw [hfn] at hQ
  exact hQ _ _ _ _ _ rfl hP hD hS dX1_tell_126

def fX1_restVoltage (B : Bat) (v : Int32) : Int32 :=
  let r1 : Int32 := fX2_voltsAt B.2.1 v
  r1
abbrev rX1_restVoltage : Room := { frames := 1, cells := 0, slots := 0, locals := 22 }
theorem mm_X1_restVoltage_1 : Cond.fieldLink RX1 12 "GaugeBounds$Battery" "curve" "LGaugeBounds$Curve;" ∈ wsX1_restVoltage := List.mem_of_getElem? (i := 1) rfl
theorem ii_X1_restVoltage_X1 : ∀ w ∈ wsX10, w ∈ wsX1_restVoltage := fun _ h => List.mem_cons_of_mem _ (List.mem_append_left _ (List.mem_append_right _ (h)))
theorem qvX1_restVoltage : yX1_restVoltage.cls = RX1 ∧ yX1_restVoltage.cls ≠ "java/lang/invoke/MethodHandle" ∧ yX1_restVoltage.cls ≠ "java/lang/invoke/VarHandle" ∧ (parseMethodDescriptor yX1_restVoltage.desc).map (fun d => d.parameters.length) = some 1 := by decide +kernel
set_option maxHeartbeats 4000000 in
set_option maxRecDepth 100000 in
theorem kX1_restVoltage (l : Launch) (E : gEnv) (a : Nat → Nat) (B : Bat) (v : Int32) : gMi l E yX1_restVoltage wsX1_restVoltage rX1_restVoltage [.ref (a 0), .int v] (wB E a B) (fX1_restVoltage B v) (wB E a B) := by
  refine gMi_of (cc := cX1_restVoltage) (maxL := 2) (ret := (some .int)) (by decide) rfl rfl (Nat.le_of_ble_eq_true rfl) ?_
  intro p e s m args below meth c A Q ls hB hQ
  obtain ⟨hx, hb, hml, hown, hts, hK, hP, hD, hA, hS, hl⟩ := hB
  have hown : s.vm.findClass RX1 = some m.cls := hown
  have hP : va_P E.1 vwCl [(a 0, .inr (1, [.ref (a 1), .ref (a 3), .int (B.1 0), .int (B.1 1), .int (B.1 2), .int (B.1 3), .int (B.1 4), .int (B.1 5), .int (B.1 6), .int (B.1 7), .int (B.1 8), .int (B.1 9), .int (B.1 10), .int (B.1 11), .int (B.1 12)])), (a 1, .inr (2, [.ref (a 2)])), (a 2, .inl (eI E, 11, .inl B.2.1)), (a 3, .inr (0, [.ref (a 4), .ref (a 5)])), (a 4, .inl (eJ E, 22, .inr (.inl B.2.2.1))), (a 5, .inl (eI E, 22, .inl B.2.2.2))] s.heap := hP
  have hD : va_D A [(a 0, .inr (1, [.ref (a 1), .ref (a 3), .int (B.1 0), .int (B.1 1), .int (B.1 2), .int (B.1 3), .int (B.1 4), .int (B.1 5), .int (B.1 6), .int (B.1 7), .int (B.1 8), .int (B.1 9), .int (B.1 10), .int (B.1 11), .int (B.1 12)])), (a 1, .inr (2, [.ref (a 2)])), (a 2, .inl (eI E, 11, .inl B.2.1)), (a 3, .inr (0, [.ref (a 4), .ref (a 5)])), (a 4, .inl (eJ E, 22, .inr (.inl B.2.2.1))), (a 5, .inl (eI E, 22, .inl B.2.2.2))] := hD
  have hl : lv_has ls 2 [(0, .ref (a 0)), (1, .int v)] := hl
  refine lv_aload_n (pc := 0) hx hb dX1_restVoltage_0 rfl (lv_at hl 0 rfl) ?_
  refine g_get (v := .ref (a 1)) (pc := 1) hx hb hts ii_X1_restVoltage_X1 hown hK.1 hP 0 rfl rfl 0 (by decide) ⟨rfl, rfl, rfl⟩ mm_X1_restVoltage_1 rfl dX1_restVoltage_1 ?_
  refine lv_iload_n (pc := 4) hx hb dX1_restVoltage_4 rfl (lv_at hl 1 rfl) ?_
  obtain ⟨r1, er1⟩ : ∃ z : Int32, fX2_voltsAt B.2.1 v = z := ⟨_, rfl⟩
  have hr1 := kX2_voltsAt l E (a 1) (a 2) B.2.1 v
  rw [er1] at hr1
  refine gcVi (pc := 5) (w1 := [(a 0, .inr (1, [.ref (a 1), .ref (a 3), .int (B.1 0), .int (B.1 1), .int (B.1 2), .int (B.1 3), .int (B.1 4), .int (B.1 5), .int (B.1 6), .int (B.1 7), .int (B.1 8), .int (B.1 9), .int (B.1 10), .int (B.1 11), .int (B.1 12)])), (a 1, .inr (2, [.ref (a 2)])), (a 2, .inl (eI E, 11, .inl B.2.1)), (a 3, .inr (0, [.ref (a 4), .ref (a 5)])), (a 4, .inl (eJ E, 22, .inr (.inl B.2.2.1))), (a 5, .inl (eI E, 22, .inl B.2.2.2))]) (pre := [(a 0, .inr (1, [.ref (a 1), .ref (a 3), .int (B.1 0), .int (B.1 1), .int (B.1 2), .int (B.1 3), .int (B.1 4), .int (B.1 5), .int (B.1 6), .int (B.1 7), .int (B.1 8), .int (B.1 9), .int (B.1 10), .int (B.1 11), .int (B.1 12)]))]) (post := [(a 3, .inr (0, [.ref (a 4), .ref (a 5)])), (a 4, .inl (eJ E, 22, .inr (.inl B.2.2.1))), (a 5, .inl (eI E, 22, .inl B.2.2.2))]) (As := [.int v]) (rest := []) (q0 := 0) ⟨hx, hb, hml, hown, hts⟩ hr1 (cwV 1 hts gX1_restVoltage_X2_voltsAt rfl rfl rfl qvX2_voltsAt ⟨Nat.le_of_ble_eq_true rfl, Nat.le_of_ble_eq_true rfl⟩) hK hP hD hS hA rfl rfl rfl rfl rfl hl.1 rfl (Nat.le_of_ble_eq_true rfl) dX1_restVoltage_5 ⟨Nat.zero_le _, Nat.zero_le _⟩ (fun H locs hP hD hS => ?_)
  subst er1
  exact hQ _ _ _ _ _ rfl hP hD hS dX1_restVoltage_8

def fX1_tellBand (B : Bat) (sg : Int32) (tn : Int32) (w : Int32) : Int32 :=
  let r1 : Int32 := fX5_within w 0 1
  if r1 = 0 then
    (-10000002)
  else
    let x4 : Int32 := (if w = 0 then (let r5 : Int32 := fX0_resistance B.2.2.1 B.2.2.2 sg tn; r5) else (let r4 : Int32 := fX0_howMany B.2.2.1 B.2.2.2 sg tn; r4))
    x4
abbrev rX1_tellBand : Room := { frames := 3, cells := 0, slots := 0, locals := 66 }
theorem mm_X1_tellBand_4 : Cond.initialized RX5 ∈ wsX1_tellBand := List.mem_of_getElem? (i := 4) rfl
theorem mm_X1_tellBand_3 : Cond.static yX5_within ∈ wsX1_tellBand := List.mem_of_getElem? (i := 3) rfl
theorem mm_X1_tellBand_2 : Cond.fieldLink RX1 21 "GaugeBounds$Battery" "bands" "LGaugeBounds$Bands;" ∈ wsX1_tellBand := List.mem_of_getElem? (i := 2) rfl
theorem mm_X1_tellBand_1 : Cond.constant RX1 77 (-10000002) ∈ wsX1_tellBand := List.mem_of_getElem? (i := 1) rfl
theorem ii_X1_tellBand_X1 : ∀ w ∈ wsX10, w ∈ wsX1_tellBand := fun _ h => List.mem_cons_of_mem _ (List.mem_append_left _ (List.mem_append_right _ (h)))
theorem qvX1_tellBand : yX1_tellBand.cls = RX1 ∧ yX1_tellBand.cls ≠ "java/lang/invoke/MethodHandle" ∧ yX1_tellBand.cls ≠ "java/lang/invoke/VarHandle" ∧ (parseMethodDescriptor yX1_tellBand.desc).map (fun d => d.parameters.length) = some 3 := by decide +kernel
set_option maxHeartbeats 4000000 in
set_option maxRecDepth 100000 in
theorem kX1_tellBand (l : Launch) (E : gEnv) (a : Nat → Nat) (B : Bat) (sg : Int32) (tn : Int32) (w : Int32) : gMi l E yX1_tellBand wsX1_tellBand rX1_tellBand [.ref (a 0), .int sg, .int tn, .int w] (wB E a B) (fX1_tellBand B sg tn w) (wB E a B) := by
  refine gMi_of (cc := cX1_tellBand) (maxL := 4) (ret := (some .int)) (by decide) rfl rfl (Nat.le_of_ble_eq_true rfl) ?_
  intro p e s m args below meth c A Q ls hB hQ
  obtain ⟨hx, hb, hml, hown, hts, hK, hP, hD, hA, hS, hl⟩ := hB
  have hown : s.vm.findClass RX1 = some m.cls := hown
  have hP : va_P E.1 vwCl [(a 0, .inr (1, [.ref (a 1), .ref (a 3), .int (B.1 0), .int (B.1 1), .int (B.1 2), .int (B.1 3), .int (B.1 4), .int (B.1 5), .int (B.1 6), .int (B.1 7), .int (B.1 8), .int (B.1 9), .int (B.1 10), .int (B.1 11), .int (B.1 12)])), (a 1, .inr (2, [.ref (a 2)])), (a 2, .inl (eI E, 11, .inl B.2.1)), (a 3, .inr (0, [.ref (a 4), .ref (a 5)])), (a 4, .inl (eJ E, 22, .inr (.inl B.2.2.1))), (a 5, .inl (eI E, 22, .inl B.2.2.2))] s.heap := hP
  have hD : va_D A [(a 0, .inr (1, [.ref (a 1), .ref (a 3), .int (B.1 0), .int (B.1 1), .int (B.1 2), .int (B.1 3), .int (B.1 4), .int (B.1 5), .int (B.1 6), .int (B.1 7), .int (B.1 8), .int (B.1 9), .int (B.1 10), .int (B.1 11), .int (B.1 12)])), (a 1, .inr (2, [.ref (a 2)])), (a 2, .inl (eI E, 11, .inl B.2.1)), (a 3, .inr (0, [.ref (a 4), .ref (a 5)])), (a 4, .inl (eJ E, 22, .inr (.inl B.2.2.1))), (a 5, .inl (eI E, 22, .inl B.2.2.2))] := hD
  have hl : lv_has ls 4 [(0, .ref (a 0)), (1, .int sg), (2, .int tn), (3, .int w)] := hl
  refine lv_iload_n (pc := 0) hx hb dX1_tellBand_0 rfl (lv_at hl 3 rfl) ?_
  refine lv_iconst (v := 0) (pc := 1) hx hb dX1_tellBand_1 rfl ?_
  refine lv_iconst (v := 1) (pc := 2) hx hb dX1_tellBand_2 rfl ?_
  obtain ⟨r1, er1⟩ : ∃ z : Int32, fX5_within w 0 1 = z := ⟨_, rfl⟩
  have hr1 := kX5_within l E w 0 1
  rw [er1] at hr1
  refine gcNi (pc := 3) (As := [.int w, .int 0, .int 1]) (rest := []) ⟨hx, hb, hml, hown, hts⟩ hr1 ⟨va_cnB 3 hts ggX1_tellBand_X5_within rfl rfl rfl hK.2.2.1 (hts _ mm_X1_tellBand_4) qnX5_within ⟨Nat.le_of_ble_eq_true rfl, Nat.le_of_ble_eq_true rfl⟩, hts _ mm_X1_tellBand_3, trivial⟩ hK hP hD hS hA rfl hl.1 rfl (Nat.le_of_ble_eq_true rfl) dX1_tellBand_3 ⟨Nat.zero_le _, Nat.zero_le _⟩ (fun H locs hP hD hS => ?_)
  refine lv_if_ne (tgt := 12) (pc := 6) hx hb dX1_tellBand_6 (by decide) (fun c_2 => ?_) (fun c_2 => ?_)
  · refine lv_iload_n (pc := 12) hx hb dX1_tellBand_12 rfl (lv_at hl 3 rfl) ?_
    have J_5 : ∀ (H : Heap) (locs : List Loc) (ls : Array Slot) (x4 : Int32), (if w = 0 then (let r5 : Int32 := fX0_resistance B.2.2.1 B.2.2.2 sg tn; r5) else (let r4 : Int32 := fX0_howMany B.2.2.1 B.2.2.2 sg tn; r4)) = x4 → va_P E.1 vwCl [(a 0, .inr (1, [.ref (a 1), .ref (a 3), .int (B.1 0), .int (B.1 1), .int (B.1 2), .int (B.1 3), .int (B.1 4), .int (B.1 5), .int (B.1 6), .int (B.1 7), .int (B.1 8), .int (B.1 9), .int (B.1 10), .int (B.1 11), .int (B.1 12)])), (a 1, .inr (2, [.ref (a 2)])), (a 2, .inl (eI E, 11, .inl B.2.1)), (a 3, .inr (0, [.ref (a 4), .ref (a 5)])), (a 4, .inl (eJ E, 22, .inr (.inl B.2.2.1))), (a 5, .inl (eI E, 22, .inl B.2.2.2))] H → va_D A [(a 0, .inr (1, [.ref (a 1), .ref (a 3), .int (B.1 0), .int (B.1 1), .int (B.1 2), .int (B.1 3), .int (B.1 4), .int (B.1 5), .int (B.1 6), .int (B.1 7), .int (B.1 8), .int (B.1 9), .int (B.1 10), .int (B.1 11), .int (B.1 12)])), (a 1, .inr (2, [.ref (a 2)])), (a 2, .inl (eI E, 11, .inl B.2.1)), (a 3, .inr (0, [.ref (a 4), .ref (a 5)])), (a 4, .inl (eJ E, 22, .inr (.inl B.2.2.1))), (a 5, .inl (eI E, 22, .inl B.2.2.2))] → va_S A s.heap H locs → lv_has ls 4 [(0, .ref (a 0)), (1, .int sg), (2, .int tn), (3, .int w)] → W p l e rX1_tellBand s m args below meth c H locs 0 0 Q (F0 m 37 ls [.int x4]) := by
      intro H locs ls x4 ex4 hP hD hS hl
      subst ex4
      subst er1
      have hfn : fX1_tellBand B sg tn w = _ := if_neg c_2
      rw [hfn] at hQ
      exact hQ _ _ _ _ _ rfl hP hD hS dX1_tellBand_37
    refine lv_if_ne (tgt := 28) (pc := 13) hx hb dX1_tellBand_13 (by decide) (fun c_3 => ?_) (fun c_3 => ?_)
    · refine lv_aload_n (pc := 28) hx hb dX1_tellBand_28 rfl (lv_at hl 0 rfl) ?_
      refine g_get (v := .ref (a 3)) (pc := 29) hx hb hts ii_X1_tellBand_X1 hown hK.1 hP 0 rfl rfl 1 (by decide) ⟨rfl, rfl, rfl⟩ mm_X1_tellBand_2 rfl dX1_tellBand_29 ?_
      refine lv_iload_n (pc := 32) hx hb dX1_tellBand_32 rfl (lv_at hl 1 rfl) ?_
      refine lv_iload_n (pc := 33) hx hb dX1_tellBand_33 rfl (lv_at hl 2 rfl) ?_
      obtain ⟨r4, er4⟩ : ∃ z : Int32, fX0_howMany B.2.2.1 B.2.2.2 sg tn = z := ⟨_, rfl⟩
      have hr4 := kX0_howMany l E (a 3) (a 4) (a 5) B.2.2.1 B.2.2.2 sg tn
      rw [er4] at hr4
      refine gcVi (pc := 34) (w1 := [(a 0, .inr (1, [.ref (a 1), .ref (a 3), .int (B.1 0), .int (B.1 1), .int (B.1 2), .int (B.1 3), .int (B.1 4), .int (B.1 5), .int (B.1 6), .int (B.1 7), .int (B.1 8), .int (B.1 9), .int (B.1 10), .int (B.1 11), .int (B.1 12)])), (a 1, .inr (2, [.ref (a 2)])), (a 2, .inl (eI E, 11, .inl B.2.1)), (a 3, .inr (0, [.ref (a 4), .ref (a 5)])), (a 4, .inl (eJ E, 22, .inr (.inl B.2.2.1))), (a 5, .inl (eI E, 22, .inl B.2.2.2))]) (pre := [(a 0, .inr (1, [.ref (a 1), .ref (a 3), .int (B.1 0), .int (B.1 1), .int (B.1 2), .int (B.1 3), .int (B.1 4), .int (B.1 5), .int (B.1 6), .int (B.1 7), .int (B.1 8), .int (B.1 9), .int (B.1 10), .int (B.1 11), .int (B.1 12)])), (a 1, .inr (2, [.ref (a 2)])), (a 2, .inl (eI E, 11, .inl B.2.1))]) (post := []) (As := [.int sg, .int tn]) (rest := []) (q0 := 0) ⟨hx, hb, hml, hown, hts⟩ hr4 (cwV 2 hts gX1_tellBand_X0_howMany rfl rfl rfl qvX0_howMany ⟨Nat.le_of_ble_eq_true rfl, Nat.le_of_ble_eq_true rfl⟩) hK hP hD hS hA rfl rfl rfl rfl rfl hl.1 rfl (Nat.le_of_ble_eq_true rfl) dX1_tellBand_34 ⟨Nat.zero_le _, Nat.zero_le _⟩ (fun H locs hP hD hS => ?_)
      subst er4
      exact J_5 _ _ _ _ (if_neg c_3) hP hD hS (lv_sub hl [0, 1, 2, 3] rfl)
    · refine lv_aload_n (pc := 16) hx hb dX1_tellBand_16 rfl (lv_at hl 0 rfl) ?_
      refine g_get (v := .ref (a 3)) (pc := 17) hx hb hts ii_X1_tellBand_X1 hown hK.1 hP 0 rfl rfl 1 (by decide) ⟨rfl, rfl, rfl⟩ mm_X1_tellBand_2 rfl dX1_tellBand_17 ?_
      refine lv_iload_n (pc := 20) hx hb dX1_tellBand_20 rfl (lv_at hl 1 rfl) ?_
      refine lv_iload_n (pc := 21) hx hb dX1_tellBand_21 rfl (lv_at hl 2 rfl) ?_
      obtain ⟨r5, er5⟩ : ∃ z : Int32, fX0_resistance B.2.2.1 B.2.2.2 sg tn = z := ⟨_, rfl⟩
      have hr5 := kX0_resistance l E (a 3) (a 4) (a 5) B.2.2.1 B.2.2.2 sg tn
      rw [er5] at hr5
      refine gcVi (pc := 22) (w1 := [(a 0, .inr (1, [.ref (a 1), .ref (a 3), .int (B.1 0), .int (B.1 1), .int (B.1 2), .int (B.1 3), .int (B.1 4), .int (B.1 5), .int (B.1 6), .int (B.1 7), .int (B.1 8), .int (B.1 9), .int (B.1 10), .int (B.1 11), .int (B.1 12)])), (a 1, .inr (2, [.ref (a 2)])), (a 2, .inl (eI E, 11, .inl B.2.1)), (a 3, .inr (0, [.ref (a 4), .ref (a 5)])), (a 4, .inl (eJ E, 22, .inr (.inl B.2.2.1))), (a 5, .inl (eI E, 22, .inl B.2.2.2))]) (pre := [(a 0, .inr (1, [.ref (a 1), .ref (a 3), .int (B.1 0), .int (B.1 1), .int (B.1 2), .int (B.1 3), .int (B.1 4), .int (B.1 5), .int (B.1 6), .int (B.1 7), .int (B.1 8), .int (B.1 9), .int (B.1 10), .int (B.1 11), .int (B.1 12)])), (a 1, .inr (2, [.ref (a 2)])), (a 2, .inl (eI E, 11, .inl B.2.1))]) (post := []) (As := [.int sg, .int tn]) (rest := []) (q0 := 0) ⟨hx, hb, hml, hown, hts⟩ hr5 (cwV 2 hts gX1_tellBand_X0_resistance rfl rfl rfl qvX0_resistance ⟨Nat.le_of_ble_eq_true rfl, Nat.le_of_ble_eq_true rfl⟩) hK hP hD hS hA rfl rfl rfl rfl rfl hl.1 rfl (Nat.le_of_ble_eq_true rfl) dX1_tellBand_22 ⟨Nat.zero_le _, Nat.zero_le _⟩ (fun H locs hP hD hS => ?_)
      refine lv_goto (tgt := 37) (pc := 25) hx hb dX1_tellBand_25 (by decide) ?_
      subst er5
      exact J_5 _ _ _ _ (if_pos c_3) hP hD hS (lv_sub hl [0, 1, 2, 3] rfl)
  · refine lv_ldc (v := (-10000002)) (pc := 9) hx hb hown (hts _ mm_X1_tellBand_1) dX1_tellBand_9 ?_
    subst er1
    have hfn : fX1_tellBand B sg tn w = _ := if_pos c_2
    rw [hfn] at hQ
    exact hQ _ _ _ _ _ rfl hP hD hS dX1_tellBand_11

def fX1_usedBands (B : Bat) : Int32 :=
  let r1 : Int32 := fX0_used B.2.2.1 B.2.2.2
  r1
abbrev rX1_usedBands : Room := { frames := 1, cells := 0, slots := 0, locals := 22 }
theorem mm_X1_usedBands_1 : Cond.fieldLink RX1 21 "GaugeBounds$Battery" "bands" "LGaugeBounds$Bands;" ∈ wsX1_usedBands := List.mem_of_getElem? (i := 1) rfl
theorem ii_X1_usedBands_X1 : ∀ w ∈ wsX10, w ∈ wsX1_usedBands := fun _ h => List.mem_cons_of_mem _ (List.mem_append_left _ (List.mem_append_right _ (h)))
theorem qvX1_usedBands : yX1_usedBands.cls = RX1 ∧ yX1_usedBands.cls ≠ "java/lang/invoke/MethodHandle" ∧ yX1_usedBands.cls ≠ "java/lang/invoke/VarHandle" ∧ (parseMethodDescriptor yX1_usedBands.desc).map (fun d => d.parameters.length) = some 0 := by decide +kernel
set_option maxHeartbeats 4000000 in
set_option maxRecDepth 100000 in
theorem kX1_usedBands (l : Launch) (E : gEnv) (a : Nat → Nat) (B : Bat) : gMi l E yX1_usedBands wsX1_usedBands rX1_usedBands [.ref (a 0)] (wB E a B) (fX1_usedBands B) (wB E a B) := by
  refine gMi_of (cc := cX1_usedBands) (maxL := 1) (ret := (some .int)) (by decide) rfl rfl (Nat.le_of_ble_eq_true rfl) ?_
  intro p e s m args below meth c A Q ls hB hQ
  obtain ⟨hx, hb, hml, hown, hts, hK, hP, hD, hA, hS, hl⟩ := hB
  have hown : s.vm.findClass RX1 = some m.cls := hown
  have hP : va_P E.1 vwCl [(a 0, .inr (1, [.ref (a 1), .ref (a 3), .int (B.1 0), .int (B.1 1), .int (B.1 2), .int (B.1 3), .int (B.1 4), .int (B.1 5), .int (B.1 6), .int (B.1 7), .int (B.1 8), .int (B.1 9), .int (B.1 10), .int (B.1 11), .int (B.1 12)])), (a 1, .inr (2, [.ref (a 2)])), (a 2, .inl (eI E, 11, .inl B.2.1)), (a 3, .inr (0, [.ref (a 4), .ref (a 5)])), (a 4, .inl (eJ E, 22, .inr (.inl B.2.2.1))), (a 5, .inl (eI E, 22, .inl B.2.2.2))] s.heap := hP
  have hD : va_D A [(a 0, .inr (1, [.ref (a 1), .ref (a 3), .int (B.1 0), .int (B.1 1), .int (B.1 2), .int (B.1 3), .int (B.1 4), .int (B.1 5), .int (B.1 6), .int (B.1 7), .int (B.1 8), .int (B.1 9), .int (B.1 10), .int (B.1 11), .int (B.1 12)])), (a 1, .inr (2, [.ref (a 2)])), (a 2, .inl (eI E, 11, .inl B.2.1)), (a 3, .inr (0, [.ref (a 4), .ref (a 5)])), (a 4, .inl (eJ E, 22, .inr (.inl B.2.2.1))), (a 5, .inl (eI E, 22, .inl B.2.2.2))] := hD
  have hl : lv_has ls 1 [(0, .ref (a 0))] := hl
  refine lv_aload_n (pc := 0) hx hb dX1_usedBands_0 rfl (lv_at hl 0 rfl) ?_
  refine g_get (v := .ref (a 3)) (pc := 1) hx hb hts ii_X1_usedBands_X1 hown hK.1 hP 0 rfl rfl 1 (by decide) ⟨rfl, rfl, rfl⟩ mm_X1_usedBands_1 rfl dX1_usedBands_1 ?_
  obtain ⟨r1, er1⟩ : ∃ z : Int32, fX0_used B.2.2.1 B.2.2.2 = z := ⟨_, rfl⟩
  have hr1 := kX0_used l E (a 3) (a 4) (a 5) B.2.2.1 B.2.2.2
  rw [er1] at hr1
  refine gcVi (pc := 4) (w1 := [(a 0, .inr (1, [.ref (a 1), .ref (a 3), .int (B.1 0), .int (B.1 1), .int (B.1 2), .int (B.1 3), .int (B.1 4), .int (B.1 5), .int (B.1 6), .int (B.1 7), .int (B.1 8), .int (B.1 9), .int (B.1 10), .int (B.1 11), .int (B.1 12)])), (a 1, .inr (2, [.ref (a 2)])), (a 2, .inl (eI E, 11, .inl B.2.1)), (a 3, .inr (0, [.ref (a 4), .ref (a 5)])), (a 4, .inl (eJ E, 22, .inr (.inl B.2.2.1))), (a 5, .inl (eI E, 22, .inl B.2.2.2))]) (pre := [(a 0, .inr (1, [.ref (a 1), .ref (a 3), .int (B.1 0), .int (B.1 1), .int (B.1 2), .int (B.1 3), .int (B.1 4), .int (B.1 5), .int (B.1 6), .int (B.1 7), .int (B.1 8), .int (B.1 9), .int (B.1 10), .int (B.1 11), .int (B.1 12)])), (a 1, .inr (2, [.ref (a 2)])), (a 2, .inl (eI E, 11, .inl B.2.1))]) (post := []) (As := []) (rest := []) (q0 := 0) ⟨hx, hb, hml, hown, hts⟩ hr1 (cwV 0 hts gX1_usedBands_X0_used rfl rfl rfl qvX0_used ⟨Nat.le_of_ble_eq_true rfl, Nat.le_of_ble_eq_true rfl⟩) hK hP hD hS hA rfl rfl rfl rfl rfl hl.1 rfl (Nat.le_of_ble_eq_true rfl) dX1_usedBands_4 ⟨Nat.zero_le _, Nat.zero_le _⟩ (fun H locs hP hD hS => ?_)
  subst er1
  exact hQ _ _ _ _ _ rfl hP hD hS dX1_usedBands_7

def fX1_lasting (B : Bat) (i : Int32) (w : Int32) : Int32 :=
  let r1 : Int32 := fX5_within i 1 99
  if r1 = 0 then
    (-10000002)
  else
    let r3 : Int32 := fX5_within w 0 1
    if r3 = 0 then
      (-10000002)
    else
      if w = 0 then
        (B.1 0) / (i + (B.1 4))
      else
        let x7 : Int32 := (if (B.1 4) < i then ((B.1 1) / (i - (B.1 4))) else (-10000001))
        x7
abbrev rX1_lasting : Room := { frames := 1, cells := 0, slots := 0, locals := 22 }
theorem mm_X1_lasting_7 : Cond.initialized RX5 ∈ wsX1_lasting := List.mem_of_getElem? (i := 7) rfl
theorem mm_X1_lasting_6 : Cond.static yX5_within ∈ wsX1_lasting := List.mem_of_getElem? (i := 6) rfl
theorem mm_X1_lasting_1 : Cond.constant RX1 77 (-10000002) ∈ wsX1_lasting := List.mem_of_getElem? (i := 1) rfl
theorem mm_X1_lasting_3 : Cond.fieldLink RX1 35 "GaugeBounds$Battery" "offset" "I" ∈ wsX1_lasting := List.mem_of_getElem? (i := 3) rfl
theorem mm_X1_lasting_5 : Cond.fieldLink RX1 25 "GaugeBounds$Battery" "high" "I" ∈ wsX1_lasting := List.mem_of_getElem? (i := 5) rfl
theorem mm_X1_lasting_4 : Cond.constant RX1 41 (-10000001) ∈ wsX1_lasting := List.mem_of_getElem? (i := 4) rfl
theorem mm_X1_lasting_2 : Cond.fieldLink RX1 58 "GaugeBounds$Battery" "low" "I" ∈ wsX1_lasting := List.mem_of_getElem? (i := 2) rfl
theorem ii_X1_lasting_X1 : ∀ w ∈ wsX10, w ∈ wsX1_lasting := fun _ h => List.mem_cons_of_mem _ (List.mem_append_right _ (h))
theorem qvX1_lasting : yX1_lasting.cls = RX1 ∧ yX1_lasting.cls ≠ "java/lang/invoke/MethodHandle" ∧ yX1_lasting.cls ≠ "java/lang/invoke/VarHandle" ∧ (parseMethodDescriptor yX1_lasting.desc).map (fun d => d.parameters.length) = some 2 := by decide +kernel
set_option maxHeartbeats 4000000 in
set_option maxRecDepth 100000 in
theorem kX1_lasting (l : Launch) (E : gEnv) (a : Nat → Nat) (B : Bat) (i : Int32) (w : Int32) (ho : 0 ≤ (B.1 4).toInt ∧ (B.1 4).toInt ≤ 9) : gMi l E yX1_lasting wsX1_lasting rX1_lasting [.ref (a 0), .int i, .int w] (wB E a B) (fX1_lasting B i w) (wB E a B) := by
  refine gMi_of (cc := cX1_lasting) (maxL := 3) (ret := (some .int)) (by decide) rfl rfl (Nat.le_of_ble_eq_true rfl) ?_
  intro p e s m args below meth c A Q ls hB hQ
  obtain ⟨hx, hb, hml, hown, hts, hK, hP, hD, hA, hS, hl⟩ := hB
  have hown : s.vm.findClass RX1 = some m.cls := hown
  have hP : va_P E.1 vwCl [(a 0, .inr (1, [.ref (a 1), .ref (a 3), .int (B.1 0), .int (B.1 1), .int (B.1 2), .int (B.1 3), .int (B.1 4), .int (B.1 5), .int (B.1 6), .int (B.1 7), .int (B.1 8), .int (B.1 9), .int (B.1 10), .int (B.1 11), .int (B.1 12)])), (a 1, .inr (2, [.ref (a 2)])), (a 2, .inl (eI E, 11, .inl B.2.1)), (a 3, .inr (0, [.ref (a 4), .ref (a 5)])), (a 4, .inl (eJ E, 22, .inr (.inl B.2.2.1))), (a 5, .inl (eI E, 22, .inl B.2.2.2))] s.heap := hP
  have hD : va_D A [(a 0, .inr (1, [.ref (a 1), .ref (a 3), .int (B.1 0), .int (B.1 1), .int (B.1 2), .int (B.1 3), .int (B.1 4), .int (B.1 5), .int (B.1 6), .int (B.1 7), .int (B.1 8), .int (B.1 9), .int (B.1 10), .int (B.1 11), .int (B.1 12)])), (a 1, .inr (2, [.ref (a 2)])), (a 2, .inl (eI E, 11, .inl B.2.1)), (a 3, .inr (0, [.ref (a 4), .ref (a 5)])), (a 4, .inl (eJ E, 22, .inr (.inl B.2.2.1))), (a 5, .inl (eI E, 22, .inl B.2.2.2))] := hD
  have hl : lv_has ls 3 [(0, .ref (a 0)), (1, .int i), (2, .int w)] := hl
  refine lv_iload_n (pc := 0) hx hb dX1_lasting_0 rfl (lv_at hl 1 rfl) ?_
  refine lv_iconst (v := 1) (pc := 1) hx hb dX1_lasting_1 rfl ?_
  refine lv_bipush (v := 99) (pc := 2) hx hb dX1_lasting_2 rfl ?_
  obtain ⟨r1, er1⟩ : ∃ z : Int32, fX5_within i 1 99 = z := ⟨_, rfl⟩
  have hr1 := kX5_within l E i 1 99
  rw [er1] at hr1
  refine gcNi (pc := 4) (As := [.int i, .int 1, .int 99]) (rest := []) ⟨hx, hb, hml, hown, hts⟩ hr1 ⟨va_cnB 3 hts ggX1_lasting_X5_within rfl rfl rfl hK.2.2.1 (hts _ mm_X1_lasting_7) qnX5_within ⟨Nat.le_of_ble_eq_true rfl, Nat.le_of_ble_eq_true rfl⟩, hts _ mm_X1_lasting_6, trivial⟩ hK hP hD hS hA rfl hl.1 rfl (Nat.le_of_ble_eq_true rfl) dX1_lasting_4 ⟨Nat.zero_le _, Nat.zero_le _⟩ (fun H locs hP hD hS => ?_)
  refine lv_if_eq (tgt := 19) (pc := 7) hx hb dX1_lasting_7 (by decide) (fun c_2 => ?_) (fun c_2 => ?_)
  · refine lv_ldc (v := (-10000002)) (pc := 19) hx hb hown (hts _ mm_X1_lasting_1) dX1_lasting_19 ?_
    subst er1
    have hfn : fX1_lasting B i w = _ := if_pos c_2
    rw [hfn] at hQ
    exact hQ _ _ _ _ _ rfl hP hD hS dX1_lasting_21
  · refine lv_iload_n (pc := 10) hx hb dX1_lasting_10 rfl (lv_at hl 2 rfl) ?_
    refine lv_iconst (v := 0) (pc := 11) hx hb dX1_lasting_11 rfl ?_
    refine lv_iconst (v := 1) (pc := 12) hx hb dX1_lasting_12 rfl ?_
    obtain ⟨r3, er3⟩ : ∃ z : Int32, fX5_within w 0 1 = z := ⟨_, rfl⟩
    have hr3 := kX5_within l E w 0 1
    rw [er3] at hr3
    refine gcNi (pc := 13) (As := [.int w, .int 0, .int 1]) (rest := []) ⟨hx, hb, hml, hown, hts⟩ hr3 ⟨va_cnB 3 hts ggX1_lasting_X5_within rfl rfl rfl hK.2.2.1 (hts _ mm_X1_lasting_7) qnX5_within ⟨Nat.le_of_ble_eq_true rfl, Nat.le_of_ble_eq_true rfl⟩, hts _ mm_X1_lasting_6, trivial⟩ hK hP hD hS hA rfl hl.1 rfl (Nat.le_of_ble_eq_true rfl) dX1_lasting_13 ⟨Nat.zero_le _, Nat.zero_le _⟩ (fun H locs hP hD hS => ?_)
    refine lv_if_ne (tgt := 22) (pc := 16) hx hb dX1_lasting_16 (by decide) (fun c_4 => ?_) (fun c_4 => ?_)
    · refine lv_iload_n (pc := 22) hx hb dX1_lasting_22 rfl (lv_at hl 2 rfl) ?_
      refine lv_if_ne (tgt := 38) (pc := 23) hx hb dX1_lasting_23 (by decide) (fun c_5 => ?_) (fun c_5 => ?_)
      · refine lv_iload_n (pc := 38) hx hb dX1_lasting_38 rfl (lv_at hl 1 rfl) ?_
        refine lv_aload_n (pc := 39) hx hb dX1_lasting_39 rfl (lv_at hl 0 rfl) ?_
        refine g_get (v := .int (B.1 4)) (pc := 40) hx hb hts ii_X1_lasting_X1 hown hK.1 hP 0 rfl rfl 6 (by decide) ⟨rfl, rfl, rfl⟩ mm_X1_lasting_3 rfl dX1_lasting_40 ?_
        have J_8 : ∀ (H : Heap) (locs : List Loc) (ls : Array Slot) (x7 : Int32), (if (B.1 4) < i then ((B.1 1) / (i - (B.1 4))) else (-10000001)) = x7 → va_P E.1 vwCl [(a 0, .inr (1, [.ref (a 1), .ref (a 3), .int (B.1 0), .int (B.1 1), .int (B.1 2), .int (B.1 3), .int (B.1 4), .int (B.1 5), .int (B.1 6), .int (B.1 7), .int (B.1 8), .int (B.1 9), .int (B.1 10), .int (B.1 11), .int (B.1 12)])), (a 1, .inr (2, [.ref (a 2)])), (a 2, .inl (eI E, 11, .inl B.2.1)), (a 3, .inr (0, [.ref (a 4), .ref (a 5)])), (a 4, .inl (eJ E, 22, .inr (.inl B.2.2.1))), (a 5, .inl (eI E, 22, .inl B.2.2.2))] H → va_D A [(a 0, .inr (1, [.ref (a 1), .ref (a 3), .int (B.1 0), .int (B.1 1), .int (B.1 2), .int (B.1 3), .int (B.1 4), .int (B.1 5), .int (B.1 6), .int (B.1 7), .int (B.1 8), .int (B.1 9), .int (B.1 10), .int (B.1 11), .int (B.1 12)])), (a 1, .inr (2, [.ref (a 2)])), (a 2, .inl (eI E, 11, .inl B.2.1)), (a 3, .inr (0, [.ref (a 4), .ref (a 5)])), (a 4, .inl (eJ E, 22, .inr (.inl B.2.2.1))), (a 5, .inl (eI E, 22, .inl B.2.2.2))] → va_S A s.heap H locs → lv_has ls 3 [(0, .ref (a 0)), (1, .int i), (2, .int w)] → W p l e rX1_lasting s m args below meth c H locs 0 0 Q (F0 m 62 ls [.int x7]) := by
          intro H locs ls x7 ex7 hP hD hS hl
          subst ex7
          subst er3
          subst er1
          have hfn : fX1_lasting B i w = _ := (if_neg c_2).trans ((if_neg c_4).trans (if_neg c_5))
          rw [hfn] at hQ
          exact hQ _ _ _ _ _ rfl hP hD hS dX1_lasting_62
        refine lv_icmp_gt (tgt := 51) (pc := 43) hx hb dX1_lasting_43 (by decide) (fun c_6 => ?_) (fun c_6 => ?_)
        · refine lv_aload_n (pc := 51) hx hb dX1_lasting_51 rfl (lv_at hl 0 rfl) ?_
          refine g_get (v := .int (B.1 1)) (pc := 52) hx hb hts ii_X1_lasting_X1 hown hK.1 hP 0 rfl rfl 3 (by decide) ⟨rfl, rfl, rfl⟩ mm_X1_lasting_5 rfl dX1_lasting_52 ?_
          refine lv_iload_n (pc := 55) hx hb dX1_lasting_55 rfl (lv_at hl 1 rfl) ?_
          refine lv_aload_n (pc := 56) hx hb dX1_lasting_56 rfl (lv_at hl 0 rfl) ?_
          refine g_get (v := .int (B.1 4)) (pc := 57) hx hb hts ii_X1_lasting_X1 hown hK.1 hP 0 rfl rfl 6 (by decide) ⟨rfl, rfl, rfl⟩ mm_X1_lasting_3 rfl dX1_lasting_57 ?_
          refine lv_isub (pc := 60) hx hb dX1_lasting_60 ?_
          refine lv_idiv (pc := 61) hx hb dX1_lasting_61 (nz_d c_6) ?_
          exact J_8 _ _ _ _ (if_pos c_6) hP hD hS (lv_sub hl [0, 1, 2] rfl)
        · refine lv_ldc (v := (-10000001)) (pc := 46) hx hb hown (hts _ mm_X1_lasting_4) dX1_lasting_46 ?_
          refine lv_goto (tgt := 62) (pc := 48) hx hb dX1_lasting_48 (by decide) ?_
          exact J_8 _ _ _ _ (if_neg c_6) hP hD hS (lv_sub hl [0, 1, 2] rfl)
      · refine lv_aload_n (pc := 26) hx hb dX1_lasting_26 rfl (lv_at hl 0 rfl) ?_
        refine g_get (v := .int (B.1 0)) (pc := 27) hx hb hts ii_X1_lasting_X1 hown hK.1 hP 0 rfl rfl 2 (by decide) ⟨rfl, rfl, rfl⟩ mm_X1_lasting_2 rfl dX1_lasting_27 ?_
        refine lv_iload_n (pc := 30) hx hb dX1_lasting_30 rfl (lv_at hl 1 rfl) ?_
        refine lv_aload_n (pc := 31) hx hb dX1_lasting_31 rfl (lv_at hl 0 rfl) ?_
        refine g_get (v := .int (B.1 4)) (pc := 32) hx hb hts ii_X1_lasting_X1 hown hK.1 hP 0 rfl rfl 6 (by decide) ⟨rfl, rfl, rfl⟩ mm_X1_lasting_3 rfl dX1_lasting_32 ?_
        refine lv_iadd (pc := 35) hx hb dX1_lasting_35 ?_
        refine lv_idiv (pc := 36) hx hb dX1_lasting_36 (by subst er1; exact nz_s c_2 ho) ?_
        subst er3
        subst er1
        have hfn : fX1_lasting B i w = _ := (if_neg c_2).trans ((if_neg c_4).trans (if_pos c_5))
        rw [hfn] at hQ
        exact hQ _ _ _ _ _ rfl hP hD hS dX1_lasting_37
    · refine lv_ldc (v := (-10000002)) (pc := 19) hx hb hown (hts _ mm_X1_lasting_1) dX1_lasting_19 ?_
      subst er3
      subst er1
      have hfn : fX1_lasting B i w = _ := (if_neg c_2).trans (if_pos c_4)
      rw [hfn] at hQ
      exact hQ _ _ _ _ _ rfl hP hD hS dX1_lasting_21

def fX1_loadedVoltage (B : Bat) (i : Int32) : Int32 :=
  let r1 : Int32 := fX1_isLoad i
  if r1 = 0 then
    (-10000002)
  else
    let r3 : Int32 := fX1_middle B
    let r4 : Int32 := fX1_signOf i
    let r5 : Int32 := fX1_tenthOf r3
    let r6 : Int32 := fX0_resistance B.2.2.1 B.2.2.2 r4 r5
    if r6 = (-10000001) then
      (-10000003)
    else
      let r8 : Int32 := fX2_voltsAt B.2.1 r3
      r8 - ((i * r6) / 100)
abbrev rX1_loadedVoltage : Room := { frames := 3, cells := 0, slots := 0, locals := 66 }
theorem mm_X1_loadedVoltage_2 : Cond.fieldLink RX1 21 "GaugeBounds$Battery" "bands" "LGaugeBounds$Bands;" ∈ wsX1_loadedVoltage := List.mem_of_getElem? (i := 2) rfl
theorem mm_X1_loadedVoltage_3 : Cond.constant RX1 41 (-10000001) ∈ wsX1_loadedVoltage := List.mem_of_getElem? (i := 3) rfl
theorem mm_X1_loadedVoltage_5 : Cond.fieldLink RX1 12 "GaugeBounds$Battery" "curve" "LGaugeBounds$Curve;" ∈ wsX1_loadedVoltage := List.mem_of_getElem? (i := 5) rfl
theorem mm_X1_loadedVoltage_4 : Cond.constant RX1 97 (-10000003) ∈ wsX1_loadedVoltage := List.mem_of_getElem? (i := 4) rfl
theorem mm_X1_loadedVoltage_1 : Cond.constant RX1 77 (-10000002) ∈ wsX1_loadedVoltage := List.mem_of_getElem? (i := 1) rfl
theorem ii_X1_loadedVoltage_X1 : ∀ w ∈ wsX10, w ∈ wsX1_loadedVoltage := fun _ h => List.mem_cons_of_mem _ (List.mem_append_left _ (List.mem_append_left _ (List.mem_append_right _ (h))))
theorem qvX1_loadedVoltage : yX1_loadedVoltage.cls = RX1 ∧ yX1_loadedVoltage.cls ≠ "java/lang/invoke/MethodHandle" ∧ yX1_loadedVoltage.cls ≠ "java/lang/invoke/VarHandle" ∧ (parseMethodDescriptor yX1_loadedVoltage.desc).map (fun d => d.parameters.length) = some 1 := by decide +kernel
set_option maxHeartbeats 4000000 in
set_option maxRecDepth 100000 in
theorem kX1_loadedVoltage (l : Launch) (E : gEnv) (a : Nat → Nat) (B : Bat) (i : Int32) : gMi l E yX1_loadedVoltage wsX1_loadedVoltage rX1_loadedVoltage [.ref (a 0), .int i] (wB E a B) (fX1_loadedVoltage B i) (wB E a B) := by
  refine gMi_of (cc := cX1_loadedVoltage) (maxL := 4) (ret := (some .int)) (by decide) rfl rfl (Nat.le_of_ble_eq_true rfl) ?_
  intro p e s m args below meth c A Q ls hB hQ
  obtain ⟨hx, hb, hml, hown, hts, hK, hP, hD, hA, hS, hl⟩ := hB
  have hown : s.vm.findClass RX1 = some m.cls := hown
  have hP : va_P E.1 vwCl [(a 0, .inr (1, [.ref (a 1), .ref (a 3), .int (B.1 0), .int (B.1 1), .int (B.1 2), .int (B.1 3), .int (B.1 4), .int (B.1 5), .int (B.1 6), .int (B.1 7), .int (B.1 8), .int (B.1 9), .int (B.1 10), .int (B.1 11), .int (B.1 12)])), (a 1, .inr (2, [.ref (a 2)])), (a 2, .inl (eI E, 11, .inl B.2.1)), (a 3, .inr (0, [.ref (a 4), .ref (a 5)])), (a 4, .inl (eJ E, 22, .inr (.inl B.2.2.1))), (a 5, .inl (eI E, 22, .inl B.2.2.2))] s.heap := hP
  have hD : va_D A [(a 0, .inr (1, [.ref (a 1), .ref (a 3), .int (B.1 0), .int (B.1 1), .int (B.1 2), .int (B.1 3), .int (B.1 4), .int (B.1 5), .int (B.1 6), .int (B.1 7), .int (B.1 8), .int (B.1 9), .int (B.1 10), .int (B.1 11), .int (B.1 12)])), (a 1, .inr (2, [.ref (a 2)])), (a 2, .inl (eI E, 11, .inl B.2.1)), (a 3, .inr (0, [.ref (a 4), .ref (a 5)])), (a 4, .inl (eJ E, 22, .inr (.inl B.2.2.1))), (a 5, .inl (eI E, 22, .inl B.2.2.2))] := hD
  have hl : lv_has ls 4 [(0, .ref (a 0)), (1, .int i)] := hl
  refine lv_iload_n (pc := 0) hx hb dX1_loadedVoltage_0 rfl (lv_at hl 1 rfl) ?_
  obtain ⟨r1, er1⟩ : ∃ z : Int32, fX1_isLoad i = z := ⟨_, rfl⟩
  have hr1 := kX1_isLoad l E i
  rw [er1] at hr1
  refine gcSi (pc := 1) (As := [.int i]) (rest := []) ⟨hx, hb, hml, hown, hts⟩ hr1 (cwS 1 hts gX1_loadedVoltage_X1_isLoad rfl rfl rfl qsX1_isLoad ⟨Nat.le_of_ble_eq_true rfl, Nat.le_of_ble_eq_true rfl⟩) hK hP hD hS hA rfl hl.1 rfl (Nat.le_of_ble_eq_true rfl) dX1_loadedVoltage_1 ⟨Nat.zero_le _, Nat.zero_le _⟩ (fun H locs hP hD hS => ?_)
  refine lv_if_ne (tgt := 10) (pc := 4) hx hb dX1_loadedVoltage_4 (by decide) (fun c_2 => ?_) (fun c_2 => ?_)
  · refine lv_aload_n (pc := 10) hx hb dX1_loadedVoltage_10 rfl (lv_at hl 0 rfl) ?_
    obtain ⟨r3, er3⟩ : ∃ z : Int32, fX1_middle B = z := ⟨_, rfl⟩
    have hr3 := kX1_middle l E a B
    rw [er3] at hr3
    refine gcVi (pc := 11) (w1 := [(a 0, .inr (1, [.ref (a 1), .ref (a 3), .int (B.1 0), .int (B.1 1), .int (B.1 2), .int (B.1 3), .int (B.1 4), .int (B.1 5), .int (B.1 6), .int (B.1 7), .int (B.1 8), .int (B.1 9), .int (B.1 10), .int (B.1 11), .int (B.1 12)])), (a 1, .inr (2, [.ref (a 2)])), (a 2, .inl (eI E, 11, .inl B.2.1)), (a 3, .inr (0, [.ref (a 4), .ref (a 5)])), (a 4, .inl (eJ E, 22, .inr (.inl B.2.2.1))), (a 5, .inl (eI E, 22, .inl B.2.2.2))]) (pre := []) (post := []) (As := []) (rest := []) (q0 := 0) ⟨hx, hb, hml, hown, hts⟩ hr3 (cwV 0 hts gX1_loadedVoltage_X1_middle rfl rfl rfl qvX1_middle ⟨Nat.le_of_ble_eq_true rfl, Nat.le_of_ble_eq_true rfl⟩) hK hP hD hS hA rfl rfl rfl rfl rfl hl.1 rfl (Nat.le_of_ble_eq_true rfl) dX1_loadedVoltage_11 ⟨Nat.zero_le _, Nat.zero_le _⟩ (fun H locs hP hD hS => ?_)
    refine lv_istore_n (lv' := [(2, .int r3), (0, .ref (a 0)), (1, .int i)]) (pc := 14) hx hb dX1_loadedVoltage_14 rfl hl (by decide) rfl (fun ls hl => ?_)
    refine lv_aload_n (pc := 15) hx hb dX1_loadedVoltage_15 rfl (lv_at hl 1 rfl) ?_
    refine g_get (v := .ref (a 3)) (pc := 16) hx hb hts ii_X1_loadedVoltage_X1 hown hK.1 hP 0 rfl rfl 1 (by decide) ⟨rfl, rfl, rfl⟩ mm_X1_loadedVoltage_2 rfl dX1_loadedVoltage_16 ?_
    refine lv_iload_n (pc := 19) hx hb dX1_loadedVoltage_19 rfl (lv_at hl 2 rfl) ?_
    obtain ⟨r4, er4⟩ : ∃ z : Int32, fX1_signOf i = z := ⟨_, rfl⟩
    have hr4 := kX1_signOf l E i
    rw [er4] at hr4
    refine gcSi (pc := 20) (As := [.int i]) (rest := [.ref (a 3)]) ⟨hx, hb, hml, hown, hts⟩ hr4 (cwS 1 hts gX1_loadedVoltage_X1_signOf rfl rfl rfl qsX1_signOf ⟨Nat.le_of_ble_eq_true rfl, Nat.le_of_ble_eq_true rfl⟩) hK hP hD hS hA rfl hl.1 rfl (Nat.le_of_ble_eq_true rfl) dX1_loadedVoltage_20 ⟨Nat.zero_le _, Nat.zero_le _⟩ (fun H locs hP hD hS => ?_)
    refine lv_iload_n (pc := 23) hx hb dX1_loadedVoltage_23 rfl (lv_at hl 0 rfl) ?_
    obtain ⟨r5, er5⟩ : ∃ z : Int32, fX1_tenthOf r3 = z := ⟨_, rfl⟩
    have hr5 := kX1_tenthOf l E r3
    rw [er5] at hr5
    refine gcSi (pc := 24) (As := [.int r3]) (rest := [.int r4, .ref (a 3)]) ⟨hx, hb, hml, hown, hts⟩ hr5 (cwS 1 hts gX1_loadedVoltage_X1_tenthOf rfl rfl rfl qsX1_tenthOf ⟨Nat.le_of_ble_eq_true rfl, Nat.le_of_ble_eq_true rfl⟩) hK hP hD hS hA rfl hl.1 rfl (Nat.le_of_ble_eq_true rfl) dX1_loadedVoltage_24 ⟨Nat.zero_le _, Nat.zero_le _⟩ (fun H locs hP hD hS => ?_)
    obtain ⟨r6, er6⟩ : ∃ z : Int32, fX0_resistance B.2.2.1 B.2.2.2 r4 r5 = z := ⟨_, rfl⟩
    have hr6 := kX0_resistance l E (a 3) (a 4) (a 5) B.2.2.1 B.2.2.2 r4 r5
    rw [er6] at hr6
    refine gcVi (pc := 27) (w1 := [(a 0, .inr (1, [.ref (a 1), .ref (a 3), .int (B.1 0), .int (B.1 1), .int (B.1 2), .int (B.1 3), .int (B.1 4), .int (B.1 5), .int (B.1 6), .int (B.1 7), .int (B.1 8), .int (B.1 9), .int (B.1 10), .int (B.1 11), .int (B.1 12)])), (a 1, .inr (2, [.ref (a 2)])), (a 2, .inl (eI E, 11, .inl B.2.1)), (a 3, .inr (0, [.ref (a 4), .ref (a 5)])), (a 4, .inl (eJ E, 22, .inr (.inl B.2.2.1))), (a 5, .inl (eI E, 22, .inl B.2.2.2))]) (pre := [(a 0, .inr (1, [.ref (a 1), .ref (a 3), .int (B.1 0), .int (B.1 1), .int (B.1 2), .int (B.1 3), .int (B.1 4), .int (B.1 5), .int (B.1 6), .int (B.1 7), .int (B.1 8), .int (B.1 9), .int (B.1 10), .int (B.1 11), .int (B.1 12)])), (a 1, .inr (2, [.ref (a 2)])), (a 2, .inl (eI E, 11, .inl B.2.1))]) (post := []) (As := [.int r4, .int r5]) (rest := []) (q0 := 0) ⟨hx, hb, hml, hown, hts⟩ hr6 (cwV 2 hts gX1_loadedVoltage_X0_resistance rfl rfl rfl qvX0_resistance ⟨Nat.le_of_ble_eq_true rfl, Nat.le_of_ble_eq_true rfl⟩) hK hP hD hS hA rfl rfl rfl rfl rfl hl.1 rfl (Nat.le_of_ble_eq_true rfl) dX1_loadedVoltage_27 ⟨Nat.zero_le _, Nat.zero_le _⟩ (fun H locs hP hD hS => ?_)
    refine lv_istore_n (lv' := [(3, .int r6), (2, .int r3), (0, .ref (a 0)), (1, .int i)]) (pc := 30) hx hb dX1_loadedVoltage_30 rfl hl (by decide) rfl (fun ls hl => ?_)
    refine lv_iload_n (pc := 31) hx hb dX1_loadedVoltage_31 rfl (lv_at hl 0 rfl) ?_
    refine lv_ldc (v := (-10000001)) (pc := 32) hx hb hown (hts _ mm_X1_loadedVoltage_3) dX1_loadedVoltage_32 ?_
    refine lv_icmp_ne (tgt := 40) (pc := 34) hx hb dX1_loadedVoltage_34 (by decide) (fun c_7 => ?_) (fun c_7 => ?_)
    · refine lv_aload_n (pc := 40) hx hb dX1_loadedVoltage_40 rfl (lv_at hl 2 rfl) ?_
      refine g_get (v := .ref (a 1)) (pc := 41) hx hb hts ii_X1_loadedVoltage_X1 hown hK.1 hP 0 rfl rfl 0 (by decide) ⟨rfl, rfl, rfl⟩ mm_X1_loadedVoltage_5 rfl dX1_loadedVoltage_41 ?_
      refine lv_iload_n (pc := 44) hx hb dX1_loadedVoltage_44 rfl (lv_at hl 1 rfl) ?_
      obtain ⟨r8, er8⟩ : ∃ z : Int32, fX2_voltsAt B.2.1 r3 = z := ⟨_, rfl⟩
      have hr8 := kX2_voltsAt l E (a 1) (a 2) B.2.1 r3
      rw [er8] at hr8
      refine gcVi (pc := 45) (w1 := [(a 0, .inr (1, [.ref (a 1), .ref (a 3), .int (B.1 0), .int (B.1 1), .int (B.1 2), .int (B.1 3), .int (B.1 4), .int (B.1 5), .int (B.1 6), .int (B.1 7), .int (B.1 8), .int (B.1 9), .int (B.1 10), .int (B.1 11), .int (B.1 12)])), (a 1, .inr (2, [.ref (a 2)])), (a 2, .inl (eI E, 11, .inl B.2.1)), (a 3, .inr (0, [.ref (a 4), .ref (a 5)])), (a 4, .inl (eJ E, 22, .inr (.inl B.2.2.1))), (a 5, .inl (eI E, 22, .inl B.2.2.2))]) (pre := [(a 0, .inr (1, [.ref (a 1), .ref (a 3), .int (B.1 0), .int (B.1 1), .int (B.1 2), .int (B.1 3), .int (B.1 4), .int (B.1 5), .int (B.1 6), .int (B.1 7), .int (B.1 8), .int (B.1 9), .int (B.1 10), .int (B.1 11), .int (B.1 12)]))]) (post := [(a 3, .inr (0, [.ref (a 4), .ref (a 5)])), (a 4, .inl (eJ E, 22, .inr (.inl B.2.2.1))), (a 5, .inl (eI E, 22, .inl B.2.2.2))]) (As := [.int r3]) (rest := []) (q0 := 0) ⟨hx, hb, hml, hown, hts⟩ hr8 (cwV 1 hts gX1_loadedVoltage_X2_voltsAt rfl rfl rfl qvX2_voltsAt ⟨Nat.le_of_ble_eq_true rfl, Nat.le_of_ble_eq_true rfl⟩) hK hP hD hS hA rfl rfl rfl rfl rfl hl.1 rfl (Nat.le_of_ble_eq_true rfl) dX1_loadedVoltage_45 ⟨Nat.zero_le _, Nat.zero_le _⟩ (fun H locs hP hD hS => ?_)
      refine lv_iload_n (pc := 48) hx hb dX1_loadedVoltage_48 rfl (lv_at hl 3 rfl) ?_
      refine lv_iload_n (pc := 49) hx hb dX1_loadedVoltage_49 rfl (lv_at hl 0 rfl) ?_
      refine lv_imul (pc := 50) hx hb dX1_loadedVoltage_50 ?_
      refine lv_bipush (v := 100) (pc := 51) hx hb dX1_loadedVoltage_51 rfl ?_
      refine lv_idiv (pc := 53) hx hb dX1_loadedVoltage_53 (by decide) ?_
      refine lv_isub (pc := 54) hx hb dX1_loadedVoltage_54 ?_
      subst er8
      subst er6
      subst er5
      subst er4
      subst er3
      subst er1
      have hfn : fX1_loadedVoltage B i = _ := (if_neg c_2).trans (if_neg c_7)
      rw [hfn] at hQ
      exact hQ _ _ _ _ _ rfl hP hD hS dX1_loadedVoltage_55
    · refine lv_ldc (v := (-10000003)) (pc := 37) hx hb hown (hts _ mm_X1_loadedVoltage_4) dX1_loadedVoltage_37 ?_
      subst er6
      subst er5
      subst er4
      subst er3
      subst er1
      have hfn : fX1_loadedVoltage B i = _ := (if_neg c_2).trans (if_pos c_7)
      rw [hfn] at hQ
      exact hQ _ _ _ _ _ rfl hP hD hS dX1_loadedVoltage_39
  · refine lv_ldc (v := (-10000002)) (pc := 7) hx hb hown (hts _ mm_X1_loadedVoltage_1) dX1_loadedVoltage_7 ?_
    subst er1
    have hfn : fX1_loadedVoltage B i = _ := if_pos c_2
    rw [hfn] at hQ
    exact hQ _ _ _ _ _ rfl hP hD hS dX1_loadedVoltage_9

def fX1_tellSetting (B : Bat) (w : Int32) : Int32 :=
  if w = 0 then
    B.1 4
  else
    if w = 1 then
      B.1 5
    else
      let r3 : Int32 := fX5_within w 2 12
      let x5 : Int32 := (if r3 = 0 then (-10000002) else (let r5 : Int32 := fX2_point B.2.1 (w - 2); r5))
      x5
abbrev rX1_tellSetting : Room := { frames := 2, cells := 0, slots := 0, locals := 43 }
theorem mm_X1_tellSetting_1 : Cond.fieldLink RX1 35 "GaugeBounds$Battery" "offset" "I" ∈ wsX1_tellSetting := List.mem_of_getElem? (i := 1) rfl
theorem mm_X1_tellSetting_2 : Cond.fieldLink RX1 38 "GaugeBounds$Battery" "cling" "I" ∈ wsX1_tellSetting := List.mem_of_getElem? (i := 2) rfl
theorem mm_X1_tellSetting_6 : Cond.initialized RX5 ∈ wsX1_tellSetting := List.mem_of_getElem? (i := 6) rfl
theorem mm_X1_tellSetting_5 : Cond.static yX5_within ∈ wsX1_tellSetting := List.mem_of_getElem? (i := 5) rfl
theorem mm_X1_tellSetting_4 : Cond.constant RX1 77 (-10000002) ∈ wsX1_tellSetting := List.mem_of_getElem? (i := 4) rfl
theorem mm_X1_tellSetting_3 : Cond.fieldLink RX1 12 "GaugeBounds$Battery" "curve" "LGaugeBounds$Curve;" ∈ wsX1_tellSetting := List.mem_of_getElem? (i := 3) rfl
theorem ii_X1_tellSetting_X1 : ∀ w ∈ wsX10, w ∈ wsX1_tellSetting := fun _ h => List.mem_cons_of_mem _ (List.mem_append_left _ (List.mem_append_right _ (h)))
theorem qvX1_tellSetting : yX1_tellSetting.cls = RX1 ∧ yX1_tellSetting.cls ≠ "java/lang/invoke/MethodHandle" ∧ yX1_tellSetting.cls ≠ "java/lang/invoke/VarHandle" ∧ (parseMethodDescriptor yX1_tellSetting.desc).map (fun d => d.parameters.length) = some 1 := by decide +kernel
set_option maxHeartbeats 4000000 in
set_option maxRecDepth 100000 in
theorem kX1_tellSetting (l : Launch) (E : gEnv) (a : Nat → Nat) (B : Bat) (w : Int32) : gMi l E yX1_tellSetting wsX1_tellSetting rX1_tellSetting [.ref (a 0), .int w] (wB E a B) (fX1_tellSetting B w) (wB E a B) := by
  refine gMi_of (cc := cX1_tellSetting) (maxL := 2) (ret := (some .int)) (by decide) rfl rfl (Nat.le_of_ble_eq_true rfl) ?_
  intro p e s m args below meth c A Q ls hB hQ
  obtain ⟨hx, hb, hml, hown, hts, hK, hP, hD, hA, hS, hl⟩ := hB
  have hown : s.vm.findClass RX1 = some m.cls := hown
  have hP : va_P E.1 vwCl [(a 0, .inr (1, [.ref (a 1), .ref (a 3), .int (B.1 0), .int (B.1 1), .int (B.1 2), .int (B.1 3), .int (B.1 4), .int (B.1 5), .int (B.1 6), .int (B.1 7), .int (B.1 8), .int (B.1 9), .int (B.1 10), .int (B.1 11), .int (B.1 12)])), (a 1, .inr (2, [.ref (a 2)])), (a 2, .inl (eI E, 11, .inl B.2.1)), (a 3, .inr (0, [.ref (a 4), .ref (a 5)])), (a 4, .inl (eJ E, 22, .inr (.inl B.2.2.1))), (a 5, .inl (eI E, 22, .inl B.2.2.2))] s.heap := hP
  have hD : va_D A [(a 0, .inr (1, [.ref (a 1), .ref (a 3), .int (B.1 0), .int (B.1 1), .int (B.1 2), .int (B.1 3), .int (B.1 4), .int (B.1 5), .int (B.1 6), .int (B.1 7), .int (B.1 8), .int (B.1 9), .int (B.1 10), .int (B.1 11), .int (B.1 12)])), (a 1, .inr (2, [.ref (a 2)])), (a 2, .inl (eI E, 11, .inl B.2.1)), (a 3, .inr (0, [.ref (a 4), .ref (a 5)])), (a 4, .inl (eJ E, 22, .inr (.inl B.2.2.1))), (a 5, .inl (eI E, 22, .inl B.2.2.2))] := hD
  have hl : lv_has ls 2 [(0, .ref (a 0)), (1, .int w)] := hl
  refine lv_iload_n (pc := 0) hx hb dX1_tellSetting_0 rfl (lv_at hl 1 rfl) ?_
  by_cases c_1 : w = 0
  · refine lv_lookup (tgt := 28) (pc := 1) hx hb dX1_tellSetting_1 (by decide) (by rw [c_1] <;> rfl) (by decide) ?_
    refine lv_aload_n (pc := 28) hx hb dX1_tellSetting_28 rfl (lv_at hl 0 rfl) ?_
    refine g_get (v := .int (B.1 4)) (pc := 29) hx hb hts ii_X1_tellSetting_X1 hown hK.1 hP 0 rfl rfl 6 (by decide) ⟨rfl, rfl, rfl⟩ mm_X1_tellSetting_1 rfl dX1_tellSetting_29 ?_
    have hfn : fX1_tellSetting B w = _ := if_pos c_1
    rw [hfn] at hQ
    exact hQ _ _ _ _ _ rfl hP hD hS dX1_tellSetting_32
  by_cases c_2 : w = 1
  · refine lv_lookup (tgt := 33) (pc := 1) hx hb dX1_tellSetting_1 (by decide) (by rw [c_2] <;> rfl) (by decide) ?_
    refine lv_aload_n (pc := 33) hx hb dX1_tellSetting_33 rfl (lv_at hl 0 rfl) ?_
    refine g_get (v := .int (B.1 5)) (pc := 34) hx hb hts ii_X1_tellSetting_X1 hown hK.1 hP 0 rfl rfl 7 (by decide) ⟨rfl, rfl, rfl⟩ mm_X1_tellSetting_2 rfl dX1_tellSetting_34 ?_
    have hfn : fX1_tellSetting B w = _ := (if_neg c_1).trans (if_pos c_2)
    rw [hfn] at hQ
    exact hQ _ _ _ _ _ rfl hP hD hS dX1_tellSetting_37
  have tc_1 : ¬ w.toInt = 0 := fun h => c_1 (Int32.toInt_inj.mp (h.trans (by decide)))
  have tc_2 : ¬ w.toInt = 1 := fun h => c_2 (Int32.toInt_inj.mp (h.trans (by decide)))
  refine lv_lookup (off := 37) (tgt := 38) (pc := 1) hx hb dX1_tellSetting_1 (by decide) (by simp only [Op.lookupswitch.offset]; rw [if_neg (fun h => tc_1 h.symm), if_neg (fun h => tc_2 h.symm)]) (by decide) ?_
  refine lv_iload_n (pc := 38) hx hb dX1_tellSetting_38 rfl (lv_at hl 1 rfl) ?_
  refine lv_iconst (v := 2) (pc := 39) hx hb dX1_tellSetting_39 rfl ?_
  refine lv_bipush (v := 12) (pc := 40) hx hb dX1_tellSetting_40 rfl ?_
  obtain ⟨r3, er3⟩ : ∃ z : Int32, fX5_within w 2 12 = z := ⟨_, rfl⟩
  have hr3 := kX5_within l E w 2 12
  rw [er3] at hr3
  refine gcNi (pc := 42) (As := [.int w, .int 2, .int 12]) (rest := []) ⟨hx, hb, hml, hown, hts⟩ hr3 ⟨va_cnB 3 hts ggX1_tellSetting_X5_within rfl rfl rfl hK.2.2.1 (hts _ mm_X1_tellSetting_6) qnX5_within ⟨Nat.le_of_ble_eq_true rfl, Nat.le_of_ble_eq_true rfl⟩, hts _ mm_X1_tellSetting_5, trivial⟩ hK hP hD hS hA rfl hl.1 rfl (Nat.le_of_ble_eq_true rfl) dX1_tellSetting_42 ⟨Nat.zero_le _, Nat.zero_le _⟩ (fun H locs hP hD hS => ?_)
  have J_6 : ∀ (H : Heap) (locs : List Loc) (ls : Array Slot) (x5 : Int32), (if r3 = 0 then (-10000002) else (let r5 : Int32 := fX2_point B.2.1 (w - 2); r5)) = x5 → va_P E.1 vwCl [(a 0, .inr (1, [.ref (a 1), .ref (a 3), .int (B.1 0), .int (B.1 1), .int (B.1 2), .int (B.1 3), .int (B.1 4), .int (B.1 5), .int (B.1 6), .int (B.1 7), .int (B.1 8), .int (B.1 9), .int (B.1 10), .int (B.1 11), .int (B.1 12)])), (a 1, .inr (2, [.ref (a 2)])), (a 2, .inl (eI E, 11, .inl B.2.1)), (a 3, .inr (0, [.ref (a 4), .ref (a 5)])), (a 4, .inl (eJ E, 22, .inr (.inl B.2.2.1))), (a 5, .inl (eI E, 22, .inl B.2.2.2))] H → va_D A [(a 0, .inr (1, [.ref (a 1), .ref (a 3), .int (B.1 0), .int (B.1 1), .int (B.1 2), .int (B.1 3), .int (B.1 4), .int (B.1 5), .int (B.1 6), .int (B.1 7), .int (B.1 8), .int (B.1 9), .int (B.1 10), .int (B.1 11), .int (B.1 12)])), (a 1, .inr (2, [.ref (a 2)])), (a 2, .inl (eI E, 11, .inl B.2.1)), (a 3, .inr (0, [.ref (a 4), .ref (a 5)])), (a 4, .inl (eJ E, 22, .inr (.inl B.2.2.1))), (a 5, .inl (eI E, 22, .inl B.2.2.2))] → va_S A s.heap H locs → lv_has ls 2 [(0, .ref (a 0)), (1, .int w)] → W p l e rX1_tellSetting s m args below meth c H locs 0 0 Q (F0 m 63 ls [.int x5]) := by
    intro H locs ls x5 ex5 hP hD hS hl
    subst ex5
    subst er3
    have hfn : fX1_tellSetting B w = _ := (if_neg c_1).trans (if_neg c_2)
    rw [hfn] at hQ
    exact hQ _ _ _ _ _ rfl hP hD hS dX1_tellSetting_63
  refine lv_if_eq (tgt := 61) (pc := 45) hx hb dX1_tellSetting_45 (by decide) (fun c_4 => ?_) (fun c_4 => ?_)
  · refine lv_ldc (v := (-10000002)) (pc := 61) hx hb hown (hts _ mm_X1_tellSetting_4) dX1_tellSetting_61 ?_
    exact J_6 _ _ _ _ (if_pos c_4) hP hD hS (lv_sub hl [0, 1] rfl)
  · refine lv_aload_n (pc := 48) hx hb dX1_tellSetting_48 rfl (lv_at hl 0 rfl) ?_
    refine g_get (v := .ref (a 1)) (pc := 49) hx hb hts ii_X1_tellSetting_X1 hown hK.1 hP 0 rfl rfl 0 (by decide) ⟨rfl, rfl, rfl⟩ mm_X1_tellSetting_3 rfl dX1_tellSetting_49 ?_
    refine lv_iload_n (pc := 52) hx hb dX1_tellSetting_52 rfl (lv_at hl 1 rfl) ?_
    refine lv_iconst (v := 2) (pc := 53) hx hb dX1_tellSetting_53 rfl ?_
    refine lv_isub (pc := 54) hx hb dX1_tellSetting_54 ?_
    obtain ⟨r5, er5⟩ : ∃ z : Int32, fX2_point B.2.1 (w - 2) = z := ⟨_, rfl⟩
    have hr5 := kX2_point l E (a 1) (a 2) B.2.1 (w - 2)
    rw [er5] at hr5
    refine gcVi (pc := 55) (w1 := [(a 0, .inr (1, [.ref (a 1), .ref (a 3), .int (B.1 0), .int (B.1 1), .int (B.1 2), .int (B.1 3), .int (B.1 4), .int (B.1 5), .int (B.1 6), .int (B.1 7), .int (B.1 8), .int (B.1 9), .int (B.1 10), .int (B.1 11), .int (B.1 12)])), (a 1, .inr (2, [.ref (a 2)])), (a 2, .inl (eI E, 11, .inl B.2.1)), (a 3, .inr (0, [.ref (a 4), .ref (a 5)])), (a 4, .inl (eJ E, 22, .inr (.inl B.2.2.1))), (a 5, .inl (eI E, 22, .inl B.2.2.2))]) (pre := [(a 0, .inr (1, [.ref (a 1), .ref (a 3), .int (B.1 0), .int (B.1 1), .int (B.1 2), .int (B.1 3), .int (B.1 4), .int (B.1 5), .int (B.1 6), .int (B.1 7), .int (B.1 8), .int (B.1 9), .int (B.1 10), .int (B.1 11), .int (B.1 12)]))]) (post := [(a 3, .inr (0, [.ref (a 4), .ref (a 5)])), (a 4, .inl (eJ E, 22, .inr (.inl B.2.2.1))), (a 5, .inl (eI E, 22, .inl B.2.2.2))]) (As := [.int (w - 2)]) (rest := []) (q0 := 0) ⟨hx, hb, hml, hown, hts⟩ hr5 (cwV 1 hts gX1_tellSetting_X2_point rfl rfl rfl qvX2_point ⟨Nat.le_of_ble_eq_true rfl, Nat.le_of_ble_eq_true rfl⟩) hK hP hD hS hA rfl rfl rfl rfl rfl hl.1 rfl (Nat.le_of_ble_eq_true rfl) dX1_tellSetting_55 ⟨Nat.zero_le _, Nat.zero_le _⟩ (fun H locs hP hD hS => ?_)
    refine lv_goto (tgt := 63) (pc := 58) hx hb dX1_tellSetting_58 (by decide) ?_
    subst er5
    exact J_6 _ _ _ _ (if_neg c_4) hP hD hS (lv_sub hl [0, 1] rfl)
