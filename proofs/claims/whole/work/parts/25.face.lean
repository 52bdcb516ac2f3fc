/-! the class's face -/
def fX5_counted (G : GS) (v : Int32) : Int32 × (GS) :=
  if v = (-10000002) then
    let x6 : Int32 := (G.1 0) + 1
    (v, ((upd G.1 0 x6), G.2.1, G.2.2.1, G.2.2.2.1, G.2.2.2.2.1, G.2.2.2.2.2))
  else
    if v = (-10000003) then
      let x5 : Int32 := (G.1 1) + 1
      (v, ((upd G.1 1 x5), G.2.1, G.2.2.1, G.2.2.2.1, G.2.2.2.2.1, G.2.2.2.2.2))
    else
      if v = (-10000004) then
        let x4 : Int32 := (G.1 2) + 1
        (v, ((upd G.1 2 x4), G.2.1, G.2.2.1, G.2.2.2.1, G.2.2.2.2.1, G.2.2.2.2.2))
      else
        (v, G)
abbrev rX5_counted : Room := { frames := 0, cells := 0, slots := 0, locals := 0 }
theorem mm_X5_counted_1 : Cond.constant RX5 67 (-10000002) ∈ wsX5_counted := List.mem_of_getElem? (i := 1) rfl
theorem mm_X5_counted_3 : Cond.constant RX5 129 (-10000003) ∈ wsX5_counted := List.mem_of_getElem? (i := 3) rfl
theorem mm_X5_counted_5 : Cond.constant RX5 170 (-10000004) ∈ wsX5_counted := List.mem_of_getElem? (i := 5) rfl
theorem mm_X5_counted_6 : Cond.fieldLink RX5 140 "GaugeBounds" "timesFull" "I" ∈ wsX5_counted := List.mem_of_getElem? (i := 6) rfl
theorem mm_X5_counted_4 : Cond.fieldLink RX5 137 "GaugeBounds" "timesNo" "I" ∈ wsX5_counted := List.mem_of_getElem? (i := 4) rfl
theorem mm_X5_counted_2 : Cond.fieldLink RX5 133 "GaugeBounds" "timesBad" "I" ∈ wsX5_counted := List.mem_of_getElem? (i := 2) rfl
theorem ii_X5_counted_X5 : ∀ w ∈ wsX50, w ∈ wsX5_counted := fun _ h => List.mem_cons_of_mem _ (List.mem_append_right _ (h))
theorem qvX5_counted : yX5_counted.cls = RX5 ∧ yX5_counted.cls ≠ "java/lang/invoke/MethodHandle" ∧ yX5_counted.cls ≠ "java/lang/invoke/VarHandle" ∧ (parseMethodDescriptor yX5_counted.desc).map (fun d => d.parameters.length) = some 1 := by decide +kernel
set_option maxHeartbeats 4000000 in
set_option maxRecDepth 100000 in
theorem kX5_counted (l : Launch) (E : gEnv) (g0 : Nat) (b : Nat → Nat) (u0 u1 : Nat) (rr : Nat → Nat → Nat) (t : Nat → Nat) (G : GS) (v : Int32) : gMi l E yX5_counted wsX5_counted rX5_counted [.ref g0, .int v] (wG E g0 b u0 u1 rr t G) (fX5_counted G v).1 (wG E g0 b u0 u1 rr t ((fX5_counted G v).2)) := by
  refine gMi_of (cc := cX5_counted) (maxL := 2) (ret := (some .int)) (by decide) rfl rfl (Nat.le_of_ble_eq_true rfl) ?_
  intro p e s m args below meth c A Q ls hB hQ
  obtain ⟨hx, hb, hml, hown, hts, hK, hP, hD, hA, hS, hl⟩ := hB
  have hown : s.vm.findClass RX5 = some m.cls := hown
  have hP : va_P E.1 vwCl ((g0, .inr (5, [.ref (b 0), .ref u0, .ref (t 0), .int (G.1 0), .int (G.1 1), .int (G.1 2)])) :: ((wB E b G.2.1) ++ ((u0, .inr (3, [.ref u1, .int (nI G.2.2.1), .int G.2.2.2.1])) :: ((u1, .inl (eO E, 6, .inr (.inr (.inr (.inr (fun k => some (rr k 0))))))) :: ((wRg E rr G.2.2.2.2.1) ++ (wT E t G.2.2.2.2.2)))))) s.heap := hP
  have hD : va_D A ((g0, .inr (5, [.ref (b 0), .ref u0, .ref (t 0), .int (G.1 0), .int (G.1 1), .int (G.1 2)])) :: ((wB E b G.2.1) ++ ((u0, .inr (3, [.ref u1, .int (nI G.2.2.1), .int G.2.2.2.1])) :: ((u1, .inl (eO E, 6, .inr (.inr (.inr (.inr (fun k => some (rr k 0))))))) :: ((wRg E rr G.2.2.2.2.1) ++ (wT E t G.2.2.2.2.2)))))) := hD
  have hl : lv_has ls 2 [(0, .ref g0), (1, .int v)] := hl
  refine lv_iload_n (pc := 0) hx hb dX5_counted_0 rfl (lv_at hl 1 rfl) ?_
  refine lv_ldc (v := (-10000002)) (pc := 1) hx hb hown (hts _ mm_X5_counted_1) dX5_counted_1 ?_
  refine lv_icmp_ne (tgt := 19) (pc := 3) hx hb dX5_counted_3 (by decide) (fun c_1 => ?_) (fun c_1 => ?_)
  · refine lv_iload_n (pc := 19) hx hb dX5_counted_19 rfl (lv_at hl 1 rfl) ?_
    refine lv_ldc (v := (-10000003)) (pc := 20) hx hb hown (hts _ mm_X5_counted_3) dX5_counted_20 ?_
    refine lv_icmp_ne (tgt := 38) (pc := 22) hx hb dX5_counted_22 (by decide) (fun c_2 => ?_) (fun c_2 => ?_)
    · refine lv_iload_n (pc := 38) hx hb dX5_counted_38 rfl (lv_at hl 1 rfl) ?_
      refine lv_ldc (v := (-10000004)) (pc := 39) hx hb hown (hts _ mm_X5_counted_5) dX5_counted_39 ?_
      refine lv_icmp_ne (tgt := 54) (pc := 41) hx hb dX5_counted_41 (by decide) (fun c_3 => ?_) (fun c_3 => ?_)
      · refine lv_iload_n (pc := 54) hx hb dX5_counted_54 rfl (lv_at hl 1 rfl) ?_
        have hfn : fX5_counted G v = (v, G) := by
          exact (if_neg c_1).trans ((if_neg c_2).trans (if_neg c_3))
        rw [hfn] at hQ
        exact hQ _ _ _ _ _ rfl hP hD hS dX5_counted_55
      · refine lv_aload_n (pc := 44) hx hb dX5_counted_44 rfl (lv_at hl 0 rfl) ?_
        refine lv_dup (pc := 45) hx hb dX5_counted_45 rfl ?_
        refine g_get (v := .int (G.1 2)) (pc := 46) hx hb hts ii_X5_counted_X5 hown hK.1 hP 0 rfl rfl 5 (by decide) ⟨rfl, rfl, rfl⟩ mm_X5_counted_6 rfl dX5_counted_46 ?_
        refine lv_iconst (v := 1) (pc := 49) hx hb dX5_counted_49 rfl ?_
        refine lv_iadd (pc := 50) hx hb dX5_counted_50 ?_
        refine g_topi (fun x4 ex4 => ?_)
        refine g_put (w1 := ((g0, .inr (5, [.ref (b 0), .ref u0, .ref (t 0), .int (G.1 0), .int (G.1 1), .int x4])) :: ((wB E b G.2.1) ++ ((u0, .inr (3, [.ref u1, .int (nI G.2.2.1), .int G.2.2.2.1])) :: ((u1, .inl (eO E, 6, .inr (.inr (.inr (.inr (fun k => some (rr k 0))))))) :: ((wRg E rr G.2.2.2.2.1) ++ (wT E t G.2.2.2.2.2))))))) (pc := 51) hx hb hts ii_X5_counted_X5 tyX5 tyX5_ok nmX5 hown hK.1 hP hD hS 0 rfl rfl 5 (by decide) ⟨rfl, rfl, rfl⟩ mm_X5_counted_6 rfl rfl rfl rfl (Nat.le_of_ble_eq_true rfl) rfl dX5_counted_51 (fun H locs hP hD hS => ?_)
        refine lv_iload_n (pc := 54) hx hb dX5_counted_54 rfl (lv_at hl 1 rfl) ?_
        have hfn : fX5_counted G v = (v, ((upd G.1 2 x4), G.2.1, G.2.2.1, G.2.2.2.1, G.2.2.2.2.1, G.2.2.2.2.2)) := by
          subst ex4
          exact (if_neg c_1).trans ((if_neg c_2).trans (if_pos c_3))
        rw [hfn] at hQ
        exact hQ _ _ _ _ _ rfl hP hD hS dX5_counted_55
    · refine lv_aload_n (pc := 25) hx hb dX5_counted_25 rfl (lv_at hl 0 rfl) ?_
      refine lv_dup (pc := 26) hx hb dX5_counted_26 rfl ?_
      refine g_get (v := .int (G.1 1)) (pc := 27) hx hb hts ii_X5_counted_X5 hown hK.1 hP 0 rfl rfl 4 (by decide) ⟨rfl, rfl, rfl⟩ mm_X5_counted_4 rfl dX5_counted_27 ?_
      refine lv_iconst (v := 1) (pc := 30) hx hb dX5_counted_30 rfl ?_
      refine lv_iadd (pc := 31) hx hb dX5_counted_31 ?_
      refine g_topi (fun x5 ex5 => ?_)
      refine g_put (w1 := ((g0, .inr (5, [.ref (b 0), .ref u0, .ref (t 0), .int (G.1 0), .int x5, .int (G.1 2)])) :: ((wB E b G.2.1) ++ ((u0, .inr (3, [.ref u1, .int (nI G.2.2.1), .int G.2.2.2.1])) :: ((u1, .inl (eO E, 6, .inr (.inr (.inr (.inr (fun k => some (rr k 0))))))) :: ((wRg E rr G.2.2.2.2.1) ++ (wT E t G.2.2.2.2.2))))))) (pc := 32) hx hb hts ii_X5_counted_X5 tyX5 tyX5_ok nmX5 hown hK.1 hP hD hS 0 rfl rfl 4 (by decide) ⟨rfl, rfl, rfl⟩ mm_X5_counted_4 rfl rfl rfl rfl (Nat.le_of_ble_eq_true rfl) rfl dX5_counted_32 (fun H locs hP hD hS => ?_)
      refine lv_goto (tgt := 54) (pc := 35) hx hb dX5_counted_35 (by decide) ?_
      refine lv_iload_n (pc := 54) hx hb dX5_counted_54 rfl (lv_at hl 1 rfl) ?_
      have hfn : fX5_counted G v = (v, ((upd G.1 1 x5), G.2.1, G.2.2.1, G.2.2.2.1, G.2.2.2.2.1, G.2.2.2.2.2)) := by
        subst ex5
        exact (if_neg c_1).trans (if_pos c_2)
      rw [hfn] at hQ
      exact hQ _ _ _ _ _ rfl hP hD hS dX5_counted_55
  · refine lv_aload_n (pc := 6) hx hb dX5_counted_6 rfl (lv_at hl 0 rfl) ?_
    refine lv_dup (pc := 7) hx hb dX5_counted_7 rfl ?_
    refine g_get (v := .int (G.1 0)) (pc := 8) hx hb hts ii_X5_counted_X5 hown hK.1 hP 0 rfl rfl 3 (by decide) ⟨rfl, rfl, rfl⟩ mm_X5_counted_2 rfl dX5_counted_8 ?_
    refine lv_iconst (v := 1) (pc := 11) hx hb dX5_counted_11 rfl ?_
    refine lv_iadd (pc := 12) hx hb dX5_counted_12 ?_
    refine g_topi (fun x6 ex6 => ?_)
    refine g_put (w1 := ((g0, .inr (5, [.ref (b 0), .ref u0, .ref (t 0), .int x6, .int (G.1 1), .int (G.1 2)])) :: ((wB E b G.2.1) ++ ((u0, .inr (3, [.ref u1, .int (nI G.2.2.1), .int G.2.2.2.1])) :: ((u1, .inl (eO E, 6, .inr (.inr (.inr (.inr (fun k => some (rr k 0))))))) :: ((wRg E rr G.2.2.2.2.1) ++ (wT E t G.2.2.2.2.2))))))) (pc := 13) hx hb hts ii_X5_counted_X5 tyX5 tyX5_ok nmX5 hown hK.1 hP hD hS 0 rfl rfl 3 (by decide) ⟨rfl, rfl, rfl⟩ mm_X5_counted_2 rfl rfl rfl rfl (Nat.le_of_ble_eq_true rfl) rfl dX5_counted_13 (fun H locs hP hD hS => ?_)
    refine lv_goto (tgt := 54) (pc := 16) hx hb dX5_counted_16 (by decide) ?_
    refine lv_iload_n (pc := 54) hx hb dX5_counted_54 rfl (lv_at hl 1 rfl) ?_
    have hfn : fX5_counted G v = (v, ((upd G.1 0 x6), G.2.1, G.2.2.1, G.2.2.2.1, G.2.2.2.2.1, G.2.2.2.2.2)) := by
      subst ex6
      exact if_pos c_1
    rw [hfn] at hQ
    exact hQ _ _ _ _ _ rfl hP hD hS dX5_counted_55

def fX5_settled (G : GS) (v : Int32) : Int32 × (GS) :=
  let r1 : Int32 := fX5_isRefusal v
  if r1 = 0 then
    let r4 : Nat × Int32 := fX3_keepMarked G.2.2.1 G.2.2.2.1
    let r5 : Int32 × (GS) := fX5_counted (G.1, G.2.1, r4.1, r4.2, G.2.2.2.2.1, G.2.2.2.2.2) v
    r5
  else
    let r3 : Int32 × (GS) := fX5_counted G v
    r3
abbrev rX5_settled : Room := { frames := 2, cells := 0, slots := 0, locals := 34 }
theorem mm_X5_settled_1 : Cond.fieldLink RX5 19 "GaugeBounds" "states" "LGaugeBounds$States;" ∈ wsX5_settled := List.mem_of_getElem? (i := 1) rfl
theorem ii_X5_settled_X5 : ∀ w ∈ wsX50, w ∈ wsX5_settled := fun _ h => List.mem_cons_of_mem _ (List.mem_append_left _ (List.mem_append_right _ (h)))
theorem qvX5_settled : yX5_settled.cls = RX5 ∧ yX5_settled.cls ≠ "java/lang/invoke/MethodHandle" ∧ yX5_settled.cls ≠ "java/lang/invoke/VarHandle" ∧ (parseMethodDescriptor yX5_settled.desc).map (fun d => d.parameters.length) = some 1 := by decide +kernel
set_option maxHeartbeats 4000000 in
set_option maxRecDepth 100000 in
theorem kX5_settled (l : Launch) (E : gEnv) (g0 : Nat) (b : Nat → Nat) (u0 u1 : Nat) (rr : Nat → Nat → Nat) (t : Nat → Nat) (G : GS) (v : Int32) (hj : G.2.2.1 < 6) : gMi l E yX5_settled wsX5_settled rX5_settled [.ref g0, .int v] (wG E g0 b u0 u1 rr t G) (fX5_settled G v).1 (wG E g0 b u0 u1 rr t ((fX5_settled G v).2)) := by
  refine gMi_of (cc := cX5_settled) (maxL := 2) (ret := (some .int)) (by decide) rfl rfl (Nat.le_of_ble_eq_true rfl) ?_
  intro p e s m args below meth c A Q ls hB hQ
  obtain ⟨hx, hb, hml, hown, hts, hK, hP, hD, hA, hS, hl⟩ := hB
  have hown : s.vm.findClass RX5 = some m.cls := hown
  have hP : va_P E.1 vwCl ((g0, .inr (5, [.ref (b 0), .ref u0, .ref (t 0), .int (G.1 0), .int (G.1 1), .int (G.1 2)])) :: ((wB E b G.2.1) ++ ((u0, .inr (3, [.ref u1, .int (nI G.2.2.1), .int G.2.2.2.1])) :: ((u1, .inl (eO E, 6, .inr (.inr (.inr (.inr (fun k => some (rr k 0))))))) :: ((wRg E rr G.2.2.2.2.1) ++ (wT E t G.2.2.2.2.2)))))) s.heap := hP
  have hD : va_D A ((g0, .inr (5, [.ref (b 0), .ref u0, .ref (t 0), .int (G.1 0), .int (G.1 1), .int (G.1 2)])) :: ((wB E b G.2.1) ++ ((u0, .inr (3, [.ref u1, .int (nI G.2.2.1), .int G.2.2.2.1])) :: ((u1, .inl (eO E, 6, .inr (.inr (.inr (.inr (fun k => some (rr k 0))))))) :: ((wRg E rr G.2.2.2.2.1) ++ (wT E t G.2.2.2.2.2)))))) := hD
  have hl : lv_has ls 2 [(0, .ref g0), (1, .int v)] := hl
  refine lv_iload_n (pc := 0) hx hb dX5_settled_0 rfl (lv_at hl 1 rfl) ?_
  obtain ⟨r1, er1⟩ : ∃ z : Int32, fX5_isRefusal v = z := ⟨_, rfl⟩
  have hr1 := kX5_isRefusal l E v
  rw [er1] at hr1
  refine gcSi (pc := 1) (As := [.int v]) (rest := []) ⟨hx, hb, hml, hown, hts⟩ hr1 (cwS 1 hts gX5_settled_X5_isRefusal rfl rfl rfl qsX5_isRefusal ⟨Nat.le_of_ble_eq_true rfl, Nat.le_of_ble_eq_true rfl⟩) hK hP hD hS hA rfl hl.1 rfl (Nat.le_of_ble_eq_true rfl) dX5_settled_1 ⟨Nat.zero_le _, Nat.zero_le _⟩ (fun H locs hP hD hS => ?_)
  refine lv_if_ne (tgt := 14) (pc := 4) hx hb dX5_settled_4 (by decide) (fun c_2 => ?_) (fun c_2 => ?_)
  · refine lv_aload_n (pc := 14) hx hb dX5_settled_14 rfl (lv_at hl 0 rfl) ?_
    refine lv_iload_n (pc := 15) hx hb dX5_settled_15 rfl (lv_at hl 1 rfl) ?_
    obtain ⟨r3, er3⟩ : ∃ z : Int32 × (GS), fX5_counted G v = z := ⟨_, rfl⟩
    have hr3 := kX5_counted l E g0 b u0 u1 rr t G v
    rw [er3] at hr3
    refine gcVi0 (pc := 16) (w1 := ((g0, .inr (5, [.ref (b 0), .ref u0, .ref (t 0), .int (r3.2.1 0), .int (r3.2.1 1), .int (r3.2.1 2)])) :: ((wB E b r3.2.2.1) ++ ((u0, .inr (3, [.ref u1, .int (nI r3.2.2.2.1), .int r3.2.2.2.2.1])) :: ((u1, .inl (eO E, 6, .inr (.inr (.inr (.inr (fun k => some (rr k 0))))))) :: ((wRg E rr r3.2.2.2.2.2.1) ++ (wT E t r3.2.2.2.2.2.2))))))) (As := [.int v]) (rest := []) (q0 := 0) ⟨hx, hb, hml, hown, hts⟩ hr3 (cwV 1 hts gX5_settled_X5_counted rfl rfl rfl qvX5_counted ⟨Nat.le_of_ble_eq_true rfl, Nat.le_of_ble_eq_true rfl⟩) hK hP hD hS hA rfl rfl rfl rfl rfl hl.1 rfl (Nat.le_of_ble_eq_true rfl) dX5_settled_16 ⟨Nat.zero_le _, Nat.zero_le _⟩ (fun H locs hP hD hS => ?_)
    have hfn : fX5_settled G v = r3 := by
      subst er3
      subst er1
      exact if_neg c_2
    rw [hfn] at hQ
    exact hQ _ _ _ _ _ rfl hP hD hS dX5_settled_19
  · refine lv_aload_n (pc := 7) hx hb dX5_settled_7 rfl (lv_at hl 0 rfl) ?_
    refine g_get (v := .ref u0) (pc := 8) hx hb hts ii_X5_settled_X5 hown hK.1 hP 0 rfl rfl 1 (by decide) ⟨rfl, rfl, rfl⟩ mm_X5_settled_1 rfl dX5_settled_8 ?_
    obtain ⟨r4, er4⟩ : ∃ z : Nat × Int32, fX3_keepMarked G.2.2.1 G.2.2.2.1 = z := ⟨_, rfl⟩
    have hr4 := kX3_keepMarked l E u0 u1 G.2.2.1 G.2.2.2.1 hj
    rw [er4] at hr4
    refine gcVv (pc := 11) (w1 := ((g0, .inr (5, [.ref (b 0), .ref u0, .ref (t 0), .int (G.1 0), .int (G.1 1), .int (G.1 2)])) :: ((wB E b G.2.1) ++ ((u0, .inr (3, [.ref u1, .int (nI r4.1), .int r4.2])) :: ((u1, .inl (eO E, 6, .inr (.inr (.inr (.inr (fun k => some (rr k 0))))))) :: ((wRg E rr G.2.2.2.2.1) ++ (wT E t G.2.2.2.2.2))))))) (pre := ((g0, .inr (5, [.ref (b 0), .ref u0, .ref (t 0), .int (G.1 0), .int (G.1 1), .int (G.1 2)])) :: (wB E b G.2.1))) (post := ((u1, .inl (eO E, 6, .inr (.inr (.inr (.inr (fun k => some (rr k 0))))))) :: ((wRg E rr G.2.2.2.2.1) ++ (wT E t G.2.2.2.2.2)))) (As := []) (rest := []) (q0 := 0) ⟨hx, hb, hml, hown, hts⟩ hr4 (cwV 0 hts gX5_settled_X3_keepMarked rfl rfl rfl qvX3_keepMarked ⟨Nat.le_of_ble_eq_true rfl, Nat.le_of_ble_eq_true rfl⟩) hK hP hD hS hA (by simp only [List.cons_append, List.append_assoc, List.nil_append, List.append_nil]) (by simp only [List.cons_append, List.append_assoc, List.nil_append, List.append_nil]) rfl rfl rfl hl.1 rfl (Nat.le_of_ble_eq_true rfl) dX5_settled_11 ⟨Nat.zero_le _, Nat.zero_le _⟩ (fun H locs hP hD hS => ?_)
    refine lv_aload_n (pc := 14) hx hb dX5_settled_14 rfl (lv_at hl 0 rfl) ?_
    refine lv_iload_n (pc := 15) hx hb dX5_settled_15 rfl (lv_at hl 1 rfl) ?_
    obtain ⟨r5, er5⟩ : ∃ z : Int32 × (GS), fX5_counted (G.1, G.2.1, r4.1, r4.2, G.2.2.2.2.1, G.2.2.2.2.2) v = z := ⟨_, rfl⟩
    have hr5 := kX5_counted l E g0 b u0 u1 rr t (G.1, G.2.1, r4.1, r4.2, G.2.2.2.2.1, G.2.2.2.2.2) v
    rw [er5] at hr5
    refine gcVi0 (pc := 16) (w1 := ((g0, .inr (5, [.ref (b 0), .ref u0, .ref (t 0), .int (r5.2.1 0), .int (r5.2.1 1), .int (r5.2.1 2)])) :: ((wB E b r5.2.2.1) ++ ((u0, .inr (3, [.ref u1, .int (nI r5.2.2.2.1), .int r5.2.2.2.2.1])) :: ((u1, .inl (eO E, 6, .inr (.inr (.inr (.inr (fun k => some (rr k 0))))))) :: ((wRg E rr r5.2.2.2.2.2.1) ++ (wT E t r5.2.2.2.2.2.2))))))) (As := [.int v]) (rest := []) (q0 := 0) ⟨hx, hb, hml, hown, hts⟩ hr5 (cwV 1 hts gX5_settled_X5_counted rfl rfl rfl qvX5_counted ⟨Nat.le_of_ble_eq_true rfl, Nat.le_of_ble_eq_true rfl⟩) hK hP hD hS hA rfl rfl rfl rfl rfl hl.1 rfl (Nat.le_of_ble_eq_true rfl) dX5_settled_16 ⟨Nat.zero_le _, Nat.zero_le _⟩ (fun H locs hP hD hS => ?_)
    have hfn : fX5_settled G v = r5 := by
      subst er5
      subst er4
      subst er1
      exact if_pos c_2
    rw [hfn] at hQ
    exact hQ _ _ _ _ _ rfl hP hD hS dX5_settled_19

def fX5_begins (G : GS) (lo : Int32) (up : Int32) : Int32 × (GS) :=
  let r1 : Nat → Bat := fX3_mark G.2.1 G.2.2.1 G.2.2.2.1 G.2.2.2.2.1
  let r2 : Int32 × (Bat) := fX1_begin G.2.1 lo up
  let r3 : Int32 × (GS) := fX5_settled (G.1, r2.2, G.2.2.1, G.2.2.2.1, r1, G.2.2.2.2.2) r2.1
  r3
abbrev rX5_begins : Room := { frames := 4, cells := 0, slots := 0, locals := 81 }
theorem mm_X5_begins_1 : Cond.fieldLink RX5 19 "GaugeBounds" "states" "LGaugeBounds$States;" ∈ wsX5_begins := List.mem_of_getElem? (i := 1) rfl
theorem mm_X5_begins_2 : Cond.fieldLink RX5 10 "GaugeBounds" "battery" "LGaugeBounds$Battery;" ∈ wsX5_begins := List.mem_of_getElem? (i := 2) rfl
theorem ii_X5_begins_X5 : ∀ w ∈ wsX50, w ∈ wsX5_begins := fun _ h => List.mem_cons_of_mem _ (List.mem_append_left _ (List.mem_append_left _ (List.mem_append_left _ (List.mem_append_left _ (List.mem_append_right _ (h))))))
theorem qvX5_begins : yX5_begins.cls = RX5 ∧ yX5_begins.cls ≠ "java/lang/invoke/MethodHandle" ∧ yX5_begins.cls ≠ "java/lang/invoke/VarHandle" ∧ (parseMethodDescriptor yX5_begins.desc).map (fun d => d.parameters.length) = some 2 := by decide +kernel
set_option maxHeartbeats 4000000 in
set_option maxRecDepth 100000 in
theorem kX5_begins (l : Launch) (E : gEnv) (g0 : Nat) (b : Nat → Nat) (u0 u1 : Nat) (rr : Nat → Nat → Nat) (t : Nat → Nat) (G : GS) (lo : Int32) (up : Int32) (hj : G.2.2.1 < 6) : gMi l E yX5_begins wsX5_begins rX5_begins [.ref g0, .int lo, .int up] (wG E g0 b u0 u1 rr t G) (fX5_begins G lo up).1 (wG E g0 b u0 u1 rr t ((fX5_begins G lo up).2)) := by
  refine gMi_of (cc := cX5_begins) (maxL := 3) (ret := (some .int)) (by decide) rfl rfl (Nat.le_of_ble_eq_true rfl) ?_
  intro p e s m args below meth c A Q ls hB hQ
  obtain ⟨hx, hb, hml, hown, hts, hK, hP, hD, hA, hS, hl⟩ := hB
  have hown : s.vm.findClass RX5 = some m.cls := hown
  have hP : va_P E.1 vwCl ((g0, .inr (5, [.ref (b 0), .ref u0, .ref (t 0), .int (G.1 0), .int (G.1 1), .int (G.1 2)])) :: ((wB E b G.2.1) ++ ((u0, .inr (3, [.ref u1, .int (nI G.2.2.1), .int G.2.2.2.1])) :: ((u1, .inl (eO E, 6, .inr (.inr (.inr (.inr (fun k => some (rr k 0))))))) :: ((wRg E rr G.2.2.2.2.1) ++ (wT E t G.2.2.2.2.2)))))) s.heap := hP
  have hD : va_D A ((g0, .inr (5, [.ref (b 0), .ref u0, .ref (t 0), .int (G.1 0), .int (G.1 1), .int (G.1 2)])) :: ((wB E b G.2.1) ++ ((u0, .inr (3, [.ref u1, .int (nI G.2.2.1), .int G.2.2.2.1])) :: ((u1, .inl (eO E, 6, .inr (.inr (.inr (.inr (fun k => some (rr k 0))))))) :: ((wRg E rr G.2.2.2.2.1) ++ (wT E t G.2.2.2.2.2)))))) := hD
  have hl : lv_has ls 3 [(0, .ref g0), (1, .int lo), (2, .int up)] := hl
  refine lv_aload_n (pc := 0) hx hb dX5_begins_0 rfl (lv_at hl 0 rfl) ?_
  refine g_get (v := .ref u0) (pc := 1) hx hb hts ii_X5_begins_X5 hown hK.1 hP 0 rfl rfl 1 (by decide) ⟨rfl, rfl, rfl⟩ mm_X5_begins_1 rfl dX5_begins_1 ?_
  refine lv_aload_n (pc := 4) hx hb dX5_begins_4 rfl (lv_at hl 0 rfl) ?_
  refine g_get (v := .ref (b 0)) (pc := 5) hx hb hts ii_X5_begins_X5 hown hK.1 hP 0 rfl rfl 0 (by decide) ⟨rfl, rfl, rfl⟩ mm_X5_begins_2 rfl dX5_begins_5 ?_
  obtain ⟨r1, er1⟩ : ∃ z : Nat → Bat, fX3_mark G.2.1 G.2.2.1 G.2.2.2.1 G.2.2.2.2.1 = z := ⟨_, rfl⟩
  have hr1 := kX3_mark l E b u0 u1 rr G.2.1 G.2.2.1 G.2.2.2.1 G.2.2.2.2.1 hj
  rw [er1] at hr1
  refine gcVv (pc := 8) (w1 := ((g0, .inr (5, [.ref (b 0), .ref u0, .ref (t 0), .int (G.1 0), .int (G.1 1), .int (G.1 2)])) :: ((wB E b G.2.1) ++ ((u0, .inr (3, [.ref u1, .int (nI G.2.2.1), .int G.2.2.2.1])) :: ((u1, .inl (eO E, 6, .inr (.inr (.inr (.inr (fun k => some (rr k 0))))))) :: ((wRg E rr r1) ++ (wT E t G.2.2.2.2.2))))))) (pre := [(g0, .inr (5, [.ref (b 0), .ref u0, .ref (t 0), .int (G.1 0), .int (G.1 1), .int (G.1 2)]))]) (post := (wT E t G.2.2.2.2.2)) (As := [.ref (b 0)]) (rest := []) (q0 := 6) ⟨hx, hb, hml, hown, hts⟩ hr1 (cwV 1 hts gX5_begins_X3_mark rfl rfl rfl qvX3_mark ⟨Nat.le_of_ble_eq_true rfl, Nat.le_of_ble_eq_true rfl⟩) hK hP hD hS hA (by simp only [List.cons_append, List.append_assoc, List.nil_append, List.append_nil]) (by simp only [List.cons_append, List.append_assoc, List.nil_append, List.append_nil]) rfl rfl rfl hl.1 rfl (Nat.le_of_ble_eq_true rfl) dX5_begins_8 ⟨Nat.zero_le _, Nat.zero_le _⟩ (fun H locs hP hD hS => ?_)
  refine lv_aload_n (pc := 11) hx hb dX5_begins_11 rfl (lv_at hl 0 rfl) ?_
  refine lv_aload_n (pc := 12) hx hb dX5_begins_12 rfl (lv_at hl 0 rfl) ?_
  refine g_get (v := .ref (b 0)) (pc := 13) hx hb hts ii_X5_begins_X5 hown hK.1 hP 0 rfl rfl 0 (by decide) ⟨rfl, rfl, rfl⟩ mm_X5_begins_2 rfl dX5_begins_13 ?_
  refine lv_iload_n (pc := 16) hx hb dX5_begins_16 rfl (lv_at hl 1 rfl) ?_
  refine lv_iload_n (pc := 17) hx hb dX5_begins_17 rfl (lv_at hl 2 rfl) ?_
  obtain ⟨r2, er2⟩ : ∃ z : Int32 × (Bat), fX1_begin G.2.1 lo up = z := ⟨_, rfl⟩
  have hr2 := kX1_begin l E b G.2.1 lo up
  rw [er2] at hr2
  refine gcVi (pc := 18) (w1 := ((g0, .inr (5, [.ref (b 0), .ref u0, .ref (t 0), .int (G.1 0), .int (G.1 1), .int (G.1 2)])) :: ((wB E b r2.2) ++ ((u0, .inr (3, [.ref u1, .int (nI G.2.2.1), .int G.2.2.2.1])) :: ((u1, .inl (eO E, 6, .inr (.inr (.inr (.inr (fun k => some (rr k 0))))))) :: ((wRg E rr r1) ++ (wT E t G.2.2.2.2.2))))))) (pre := [(g0, .inr (5, [.ref (b 0), .ref u0, .ref (t 0), .int (G.1 0), .int (G.1 1), .int (G.1 2)]))]) (post := ((u0, .inr (3, [.ref u1, .int (nI G.2.2.1), .int G.2.2.2.1])) :: ((u1, .inl (eO E, 6, .inr (.inr (.inr (.inr (fun k => some (rr k 0))))))) :: ((wRg E rr r1) ++ (wT E t G.2.2.2.2.2))))) (As := [.int lo, .int up]) (rest := [.ref g0]) (q0 := 0) ⟨hx, hb, hml, hown, hts⟩ hr2 (cwV 2 hts gX5_begins_X1_begin rfl rfl rfl qvX1_begin ⟨Nat.le_of_ble_eq_true rfl, Nat.le_of_ble_eq_true rfl⟩) hK hP hD hS hA (by simp only [List.cons_append, List.append_assoc, List.nil_append, List.append_nil]) (by simp only [List.cons_append, List.append_assoc, List.nil_append, List.append_nil]) rfl rfl rfl hl.1 rfl (Nat.le_of_ble_eq_true rfl) dX5_begins_18 ⟨Nat.zero_le _, Nat.zero_le _⟩ (fun H locs hP hD hS => ?_)
  obtain ⟨r3, er3⟩ : ∃ z : Int32 × (GS), fX5_settled (G.1, r2.2, G.2.2.1, G.2.2.2.1, r1, G.2.2.2.2.2) r2.1 = z := ⟨_, rfl⟩
  have hr3 := kX5_settled l E g0 b u0 u1 rr t (G.1, r2.2, G.2.2.1, G.2.2.2.1, r1, G.2.2.2.2.2) r2.1 hj
  rw [er3] at hr3
  refine gcVi0 (pc := 21) (w1 := ((g0, .inr (5, [.ref (b 0), .ref u0, .ref (t 0), .int (r3.2.1 0), .int (r3.2.1 1), .int (r3.2.1 2)])) :: ((wB E b r3.2.2.1) ++ ((u0, .inr (3, [.ref u1, .int (nI r3.2.2.2.1), .int r3.2.2.2.2.1])) :: ((u1, .inl (eO E, 6, .inr (.inr (.inr (.inr (fun k => some (rr k 0))))))) :: ((wRg E rr r3.2.2.2.2.2.1) ++ (wT E t r3.2.2.2.2.2.2))))))) (As := [.int r2.1]) (rest := []) (q0 := 0) ⟨hx, hb, hml, hown, hts⟩ hr3 (cwV 1 hts gX5_begins_X5_settled rfl rfl rfl qvX5_settled ⟨Nat.le_of_ble_eq_true rfl, Nat.le_of_ble_eq_true rfl⟩) hK hP hD hS hA rfl rfl rfl rfl rfl hl.1 rfl (Nat.le_of_ble_eq_true rfl) dX5_begins_21 ⟨Nat.zero_le _, Nat.zero_le _⟩ (fun H locs hP hD hS => ?_)
  have hfn : fX5_begins G lo up = r3 := by
    subst er3
    subst er2
    subst er1
    exact rfl
  rw [hfn] at hQ
  exact hQ _ _ _ _ _ rfl hP hD hS dX5_begins_24

def fX5_holds (G : GS) (lo : Int32) (up : Int32) : Int32 × (GS) :=
  let r1 : Nat → Bat := fX3_mark G.2.1 G.2.2.1 G.2.2.2.1 G.2.2.2.2.1
  let r2 : Int32 × (Bat) := fX1_hold G.2.1 lo up
  let r3 : Int32 × (GS) := fX5_settled (G.1, r2.2, G.2.2.1, G.2.2.2.1, r1, G.2.2.2.2.2) r2.1
  r3
abbrev rX5_holds : Room := { frames := 4, cells := 0, slots := 0, locals := 81 }
theorem mm_X5_holds_1 : Cond.fieldLink RX5 19 "GaugeBounds" "states" "LGaugeBounds$States;" ∈ wsX5_holds := List.mem_of_getElem? (i := 1) rfl
theorem mm_X5_holds_2 : Cond.fieldLink RX5 10 "GaugeBounds" "battery" "LGaugeBounds$Battery;" ∈ wsX5_holds := List.mem_of_getElem? (i := 2) rfl
theorem ii_X5_holds_X5 : ∀ w ∈ wsX50, w ∈ wsX5_holds := fun _ h => List.mem_cons_of_mem _ (List.mem_append_left _ (List.mem_append_left _ (List.mem_append_left _ (List.mem_append_left _ (List.mem_append_right _ (h))))))
theorem qvX5_holds : yX5_holds.cls = RX5 ∧ yX5_holds.cls ≠ "java/lang/invoke/MethodHandle" ∧ yX5_holds.cls ≠ "java/lang/invoke/VarHandle" ∧ (parseMethodDescriptor yX5_holds.desc).map (fun d => d.parameters.length) = some 2 := by decide +kernel
set_option maxHeartbeats 4000000 in
set_option maxRecDepth 100000 in
theorem kX5_holds (l : Launch) (E : gEnv) (g0 : Nat) (b : Nat → Nat) (u0 u1 : Nat) (rr : Nat → Nat → Nat) (t : Nat → Nat) (G : GS) (lo : Int32) (up : Int32) (hj : G.2.2.1 < 6) : gMi l E yX5_holds wsX5_holds rX5_holds [.ref g0, .int lo, .int up] (wG E g0 b u0 u1 rr t G) (fX5_holds G lo up).1 (wG E g0 b u0 u1 rr t ((fX5_holds G lo up).2)) := by
  refine gMi_of (cc := cX5_holds) (maxL := 3) (ret := (some .int)) (by decide) rfl rfl (Nat.le_of_ble_eq_true rfl) ?_
  intro p e s m args below meth c A Q ls hB hQ
  obtain ⟨hx, hb, hml, hown, hts, hK, hP, hD, hA, hS, hl⟩ := hB
  have hown : s.vm.findClass RX5 = some m.cls := hown
  have hP : va_P E.1 vwCl ((g0, .inr (5, [.ref (b 0), .ref u0, .ref (t 0), .int (G.1 0), .int (G.1 1), .int (G.1 2)])) :: ((wB E b G.2.1) ++ ((u0, .inr (3, [.ref u1, .int (nI G.2.2.1), .int G.2.2.2.1])) :: ((u1, .inl (eO E, 6, .inr (.inr (.inr (.inr (fun k => some (rr k 0))))))) :: ((wRg E rr G.2.2.2.2.1) ++ (wT E t G.2.2.2.2.2)))))) s.heap := hP
  have hD : va_D A ((g0, .inr (5, [.ref (b 0), .ref u0, .ref (t 0), .int (G.1 0), .int (G.1 1), .int (G.1 2)])) :: ((wB E b G.2.1) ++ ((u0, .inr (3, [.ref u1, .int (nI G.2.2.1), .int G.2.2.2.1])) :: ((u1, .inl (eO E, 6, .inr (.inr (.inr (.inr (fun k => some (rr k 0))))))) :: ((wRg E rr G.2.2.2.2.1) ++ (wT E t G.2.2.2.2.2)))))) := hD
  have hl : lv_has ls 3 [(0, .ref g0), (1, .int lo), (2, .int up)] := hl
  refine lv_aload_n (pc := 0) hx hb dX5_holds_0 rfl (lv_at hl 0 rfl) ?_
  refine g_get (v := .ref u0) (pc := 1) hx hb hts ii_X5_holds_X5 hown hK.1 hP 0 rfl rfl 1 (by decide) ⟨rfl, rfl, rfl⟩ mm_X5_holds_1 rfl dX5_holds_1 ?_
  refine lv_aload_n (pc := 4) hx hb dX5_holds_4 rfl (lv_at hl 0 rfl) ?_
  refine g_get (v := .ref (b 0)) (pc := 5) hx hb hts ii_X5_holds_X5 hown hK.1 hP 0 rfl rfl 0 (by decide) ⟨rfl, rfl, rfl⟩ mm_X5_holds_2 rfl dX5_holds_5 ?_
  obtain ⟨r1, er1⟩ : ∃ z : Nat → Bat, fX3_mark G.2.1 G.2.2.1 G.2.2.2.1 G.2.2.2.2.1 = z := ⟨_, rfl⟩
  have hr1 := kX3_mark l E b u0 u1 rr G.2.1 G.2.2.1 G.2.2.2.1 G.2.2.2.2.1 hj
  rw [er1] at hr1
  refine gcVv (pc := 8) (w1 := ((g0, .inr (5, [.ref (b 0), .ref u0, .ref (t 0), .int (G.1 0), .int (G.1 1), .int (G.1 2)])) :: ((wB E b G.2.1) ++ ((u0, .inr (3, [.ref u1, .int (nI G.2.2.1), .int G.2.2.2.1])) :: ((u1, .inl (eO E, 6, .inr (.inr (.inr (.inr (fun k => some (rr k 0))))))) :: ((wRg E rr r1) ++ (wT E t G.2.2.2.2.2))))))) (pre := [(g0, .inr (5, [.ref (b 0), .ref u0, .ref (t 0), .int (G.1 0), .int (G.1 1), .int (G.1 2)]))]) (post := (wT E t G.2.2.2.2.2)) (As := [.ref (b 0)]) (rest := []) (q0 := 6) ⟨hx, hb, hml, hown, hts⟩ hr1 (cwV 1 hts gX5_holds_X3_mark rfl rfl rfl qvX3_mark ⟨Nat.le_of_ble_eq_true rfl, Nat.le_of_ble_eq_true rfl⟩) hK hP hD hS hA (by simp only [List.cons_append, List.append_assoc, List.nil_append, List.append_nil]) (by simp only [List.cons_append, List.append_assoc, List.nil_append, List.append_nil]) rfl rfl rfl hl.1 rfl (Nat.le_of_ble_eq_true rfl) dX5_holds_8 ⟨Nat.zero_le _, Nat.zero_le _⟩ (fun H locs hP hD hS => ?_)
  refine lv_aload_n (pc := 11) hx hb dX5_holds_11 rfl (lv_at hl 0 rfl) ?_
  refine lv_aload_n (pc := 12) hx hb dX5_holds_12 rfl (lv_at hl 0 rfl) ?_
  refine g_get (v := .ref (b 0)) (pc := 13) hx hb hts ii_X5_holds_X5 hown hK.1 hP 0 rfl rfl 0 (by decide) ⟨rfl, rfl, rfl⟩ mm_X5_holds_2 rfl dX5_holds_13 ?_
  refine lv_iload_n (pc := 16) hx hb dX5_holds_16 rfl (lv_at hl 1 rfl) ?_
  refine lv_iload_n (pc := 17) hx hb dX5_holds_17 rfl (lv_at hl 2 rfl) ?_
  obtain ⟨r2, er2⟩ : ∃ z : Int32 × (Bat), fX1_hold G.2.1 lo up = z := ⟨_, rfl⟩
  have hr2 := kX1_hold l E b G.2.1 lo up
  rw [er2] at hr2
  refine gcVi (pc := 18) (w1 := ((g0, .inr (5, [.ref (b 0), .ref u0, .ref (t 0), .int (G.1 0), .int (G.1 1), .int (G.1 2)])) :: ((wB E b r2.2) ++ ((u0, .inr (3, [.ref u1, .int (nI G.2.2.1), .int G.2.2.2.1])) :: ((u1, .inl (eO E, 6, .inr (.inr (.inr (.inr (fun k => some (rr k 0))))))) :: ((wRg E rr r1) ++ (wT E t G.2.2.2.2.2))))))) (pre := [(g0, .inr (5, [.ref (b 0), .ref u0, .ref (t 0), .int (G.1 0), .int (G.1 1), .int (G.1 2)]))]) (post := ((u0, .inr (3, [.ref u1, .int (nI G.2.2.1), .int G.2.2.2.1])) :: ((u1, .inl (eO E, 6, .inr (.inr (.inr (.inr (fun k => some (rr k 0))))))) :: ((wRg E rr r1) ++ (wT E t G.2.2.2.2.2))))) (As := [.int lo, .int up]) (rest := [.ref g0]) (q0 := 0) ⟨hx, hb, hml, hown, hts⟩ hr2 (cwV 2 hts gX5_holds_X1_hold rfl rfl rfl qvX1_hold ⟨Nat.le_of_ble_eq_true rfl, Nat.le_of_ble_eq_true rfl⟩) hK hP hD hS hA (by simp only [List.cons_append, List.append_assoc, List.nil_append, List.append_nil]) (by simp only [List.cons_append, List.append_assoc, List.nil_append, List.append_nil]) rfl rfl rfl hl.1 rfl (Nat.le_of_ble_eq_true rfl) dX5_holds_18 ⟨Nat.zero_le _, Nat.zero_le _⟩ (fun H locs hP hD hS => ?_)
  obtain ⟨r3, er3⟩ : ∃ z : Int32 × (GS), fX5_settled (G.1, r2.2, G.2.2.1, G.2.2.2.1, r1, G.2.2.2.2.2) r2.1 = z := ⟨_, rfl⟩
  have hr3 := kX5_settled l E g0 b u0 u1 rr t (G.1, r2.2, G.2.2.1, G.2.2.2.1, r1, G.2.2.2.2.2) r2.1 hj
  rw [er3] at hr3
  refine gcVi0 (pc := 21) (w1 := ((g0, .inr (5, [.ref (b 0), .ref u0, .ref (t 0), .int (r3.2.1 0), .int (r3.2.1 1), .int (r3.2.1 2)])) :: ((wB E b r3.2.2.1) ++ ((u0, .inr (3, [.ref u1, .int (nI r3.2.2.2.1), .int r3.2.2.2.2.1])) :: ((u1, .inl (eO E, 6, .inr (.inr (.inr (.inr (fun k => some (rr k 0))))))) :: ((wRg E rr r3.2.2.2.2.2.1) ++ (wT E t r3.2.2.2.2.2.2))))))) (As := [.int r2.1]) (rest := []) (q0 := 0) ⟨hx, hb, hml, hown, hts⟩ hr3 (cwV 1 hts gX5_holds_X5_settled rfl rfl rfl qvX5_settled ⟨Nat.le_of_ble_eq_true rfl, Nat.le_of_ble_eq_true rfl⟩) hK hP hD hS hA rfl rfl rfl rfl rfl hl.1 rfl (Nat.le_of_ble_eq_true rfl) dX5_holds_21 ⟨Nat.zero_le _, Nat.zero_le _⟩ (fun H locs hP hD hS => ?_)
  have hfn : fX5_holds G lo up = r3 := by
    subst er3
    subst er2
    subst er1
    exact rfl
  rw [hfn] at hQ
  exact hQ _ _ _ _ _ rfl hP hD hS dX5_holds_24

def fX5_offset (G : GS) (n : Int32) : Int32 × (GS) :=
  let r1 : Nat → Bat := fX3_mark G.2.1 G.2.2.1 G.2.2.2.1 G.2.2.2.2.1
  let r2 : Int32 × (Bat) := fX1_putOffset G.2.1 n
  let r3 : Int32 × (GS) := fX5_settled (G.1, r2.2, G.2.2.1, G.2.2.2.1, r1, G.2.2.2.2.2) r2.1
  r3
abbrev rX5_offset : Room := { frames := 4, cells := 0, slots := 0, locals := 81 }
theorem mm_X5_offset_1 : Cond.fieldLink RX5 19 "GaugeBounds" "states" "LGaugeBounds$States;" ∈ wsX5_offset := List.mem_of_getElem? (i := 1) rfl
theorem mm_X5_offset_2 : Cond.fieldLink RX5 10 "GaugeBounds" "battery" "LGaugeBounds$Battery;" ∈ wsX5_offset := List.mem_of_getElem? (i := 2) rfl
theorem ii_X5_offset_X5 : ∀ w ∈ wsX50, w ∈ wsX5_offset := fun _ h => List.mem_cons_of_mem _ (List.mem_append_left _ (List.mem_append_left _ (List.mem_append_left _ (List.mem_append_left _ (List.mem_append_right _ (h))))))
theorem qvX5_offset : yX5_offset.cls = RX5 ∧ yX5_offset.cls ≠ "java/lang/invoke/MethodHandle" ∧ yX5_offset.cls ≠ "java/lang/invoke/VarHandle" ∧ (parseMethodDescriptor yX5_offset.desc).map (fun d => d.parameters.length) = some 1 := by decide +kernel
set_option maxHeartbeats 4000000 in
set_option maxRecDepth 100000 in
theorem kX5_offset (l : Launch) (E : gEnv) (g0 : Nat) (b : Nat → Nat) (u0 u1 : Nat) (rr : Nat → Nat → Nat) (t : Nat → Nat) (G : GS) (n : Int32) (hj : G.2.2.1 < 6) : gMi l E yX5_offset wsX5_offset rX5_offset [.ref g0, .int n] (wG E g0 b u0 u1 rr t G) (fX5_offset G n).1 (wG E g0 b u0 u1 rr t ((fX5_offset G n).2)) := by
  refine gMi_of (cc := cX5_offset) (maxL := 2) (ret := (some .int)) (by decide) rfl rfl (Nat.le_of_ble_eq_true rfl) ?_
  intro p e s m args below meth c A Q ls hB hQ
  obtain ⟨hx, hb, hml, hown, hts, hK, hP, hD, hA, hS, hl⟩ := hB
  have hown : s.vm.findClass RX5 = some m.cls := hown
  have hP : va_P E.1 vwCl ((g0, .inr (5, [.ref (b 0), .ref u0, .ref (t 0), .int (G.1 0), .int (G.1 1), .int (G.1 2)])) :: ((wB E b G.2.1) ++ ((u0, .inr (3, [.ref u1, .int (nI G.2.2.1), .int G.2.2.2.1])) :: ((u1, .inl (eO E, 6, .inr (.inr (.inr (.inr (fun k => some (rr k 0))))))) :: ((wRg E rr G.2.2.2.2.1) ++ (wT E t G.2.2.2.2.2)))))) s.heap := hP
  have hD : va_D A ((g0, .inr (5, [.ref (b 0), .ref u0, .ref (t 0), .int (G.1 0), .int (G.1 1), .int (G.1 2)])) :: ((wB E b G.2.1) ++ ((u0, .inr (3, [.ref u1, .int (nI G.2.2.1), .int G.2.2.2.1])) :: ((u1, .inl (eO E, 6, .inr (.inr (.inr (.inr (fun k => some (rr k 0))))))) :: ((wRg E rr G.2.2.2.2.1) ++ (wT E t G.2.2.2.2.2)))))) := hD
  have hl : lv_has ls 2 [(0, .ref g0), (1, .int n)] := hl
  refine lv_aload_n (pc := 0) hx hb dX5_offset_0 rfl (lv_at hl 0 rfl) ?_
  refine g_get (v := .ref u0) (pc := 1) hx hb hts ii_X5_offset_X5 hown hK.1 hP 0 rfl rfl 1 (by decide) ⟨rfl, rfl, rfl⟩ mm_X5_offset_1 rfl dX5_offset_1 ?_
  refine lv_aload_n (pc := 4) hx hb dX5_offset_4 rfl (lv_at hl 0 rfl) ?_
  refine g_get (v := .ref (b 0)) (pc := 5) hx hb hts ii_X5_offset_X5 hown hK.1 hP 0 rfl rfl 0 (by decide) ⟨rfl, rfl, rfl⟩ mm_X5_offset_2 rfl dX5_offset_5 ?_
  obtain ⟨r1, er1⟩ : ∃ z : Nat → Bat, fX3_mark G.2.1 G.2.2.1 G.2.2.2.1 G.2.2.2.2.1 = z := ⟨_, rfl⟩
  have hr1 := kX3_mark l E b u0 u1 rr G.2.1 G.2.2.1 G.2.2.2.1 G.2.2.2.2.1 hj
  rw [er1] at hr1
  refine gcVv (pc := 8) (w1 := ((g0, .inr (5, [.ref (b 0), .ref u0, .ref (t 0), .int (G.1 0), .int (G.1 1), .int (G.1 2)])) :: ((wB E b G.2.1) ++ ((u0, .inr (3, [.ref u1, .int (nI G.2.2.1), .int G.2.2.2.1])) :: ((u1, .inl (eO E, 6, .inr (.inr (.inr (.inr (fun k => some (rr k 0))))))) :: ((wRg E rr r1) ++ (wT E t G.2.2.2.2.2))))))) (pre := [(g0, .inr (5, [.ref (b 0), .ref u0, .ref (t 0), .int (G.1 0), .int (G.1 1), .int (G.1 2)]))]) (post := (wT E t G.2.2.2.2.2)) (As := [.ref (b 0)]) (rest := []) (q0 := 6) ⟨hx, hb, hml, hown, hts⟩ hr1 (cwV 1 hts gX5_offset_X3_mark rfl rfl rfl qvX3_mark ⟨Nat.le_of_ble_eq_true rfl, Nat.le_of_ble_eq_true rfl⟩) hK hP hD hS hA (by simp only [List.cons_append, List.append_assoc, List.nil_append, List.append_nil]) (by simp only [List.cons_append, List.append_assoc, List.nil_append, List.append_nil]) rfl rfl rfl hl.1 rfl (Nat.le_of_ble_eq_true rfl) dX5_offset_8 ⟨Nat.zero_le _, Nat.zero_le _⟩ (fun H locs hP hD hS => ?_)
  refine lv_aload_n (pc := 11) hx hb dX5_offset_11 rfl (lv_at hl 0 rfl) ?_
  refine lv_aload_n (pc := 12) hx hb dX5_offset_12 rfl (lv_at hl 0 rfl) ?_
  refine g_get (v := .ref (b 0)) (pc := 13) hx hb hts ii_X5_offset_X5 hown hK.1 hP 0 rfl rfl 0 (by decide) ⟨rfl, rfl, rfl⟩ mm_X5_offset_2 rfl dX5_offset_13 ?_
  refine lv_iload_n (pc := 16) hx hb dX5_offset_16 rfl (lv_at hl 1 rfl) ?_
  obtain ⟨r2, er2⟩ : ∃ z : Int32 × (Bat), fX1_putOffset G.2.1 n = z := ⟨_, rfl⟩
  have hr2 := kX1_putOffset l E b G.2.1 n
  rw [er2] at hr2
  refine gcVi (pc := 17) (w1 := ((g0, .inr (5, [.ref (b 0), .ref u0, .ref (t 0), .int (G.1 0), .int (G.1 1), .int (G.1 2)])) :: ((wB E b r2.2) ++ ((u0, .inr (3, [.ref u1, .int (nI G.2.2.1), .int G.2.2.2.1])) :: ((u1, .inl (eO E, 6, .inr (.inr (.inr (.inr (fun k => some (rr k 0))))))) :: ((wRg E rr r1) ++ (wT E t G.2.2.2.2.2))))))) (pre := [(g0, .inr (5, [.ref (b 0), .ref u0, .ref (t 0), .int (G.1 0), .int (G.1 1), .int (G.1 2)]))]) (post := ((u0, .inr (3, [.ref u1, .int (nI G.2.2.1), .int G.2.2.2.1])) :: ((u1, .inl (eO E, 6, .inr (.inr (.inr (.inr (fun k => some (rr k 0))))))) :: ((wRg E rr r1) ++ (wT E t G.2.2.2.2.2))))) (As := [.int n]) (rest := [.ref g0]) (q0 := 0) ⟨hx, hb, hml, hown, hts⟩ hr2 (cwV 1 hts gX5_offset_X1_putOffset rfl rfl rfl qvX1_putOffset ⟨Nat.le_of_ble_eq_true rfl, Nat.le_of_ble_eq_true rfl⟩) hK hP hD hS hA (by simp only [List.cons_append, List.append_assoc, List.nil_append, List.append_nil]) (by simp only [List.cons_append, List.append_assoc, List.nil_append, List.append_nil]) rfl rfl rfl hl.1 rfl (Nat.le_of_ble_eq_true rfl) dX5_offset_17 ⟨Nat.zero_le _, Nat.zero_le _⟩ (fun H locs hP hD hS => ?_)
  obtain ⟨r3, er3⟩ : ∃ z : Int32 × (GS), fX5_settled (G.1, r2.2, G.2.2.1, G.2.2.2.1, r1, G.2.2.2.2.2) r2.1 = z := ⟨_, rfl⟩
  have hr3 := kX5_settled l E g0 b u0 u1 rr t (G.1, r2.2, G.2.2.1, G.2.2.2.1, r1, G.2.2.2.2.2) r2.1 hj
  rw [er3] at hr3
  refine gcVi0 (pc := 20) (w1 := ((g0, .inr (5, [.ref (b 0), .ref u0, .ref (t 0), .int (r3.2.1 0), .int (r3.2.1 1), .int (r3.2.1 2)])) :: ((wB E b r3.2.2.1) ++ ((u0, .inr (3, [.ref u1, .int (nI r3.2.2.2.1), .int r3.2.2.2.2.1])) :: ((u1, .inl (eO E, 6, .inr (.inr (.inr (.inr (fun k => some (rr k 0))))))) :: ((wRg E rr r3.2.2.2.2.2.1) ++ (wT E t r3.2.2.2.2.2.2))))))) (As := [.int r2.1]) (rest := []) (q0 := 0) ⟨hx, hb, hml, hown, hts⟩ hr3 (cwV 1 hts gX5_offset_X5_settled rfl rfl rfl qvX5_settled ⟨Nat.le_of_ble_eq_true rfl, Nat.le_of_ble_eq_true rfl⟩) hK hP hD hS hA rfl rfl rfl rfl rfl hl.1 rfl (Nat.le_of_ble_eq_true rfl) dX5_offset_20 ⟨Nat.zero_le _, Nat.zero_le _⟩ (fun H locs hP hD hS => ?_)
  have hfn : fX5_offset G n = r3 := by
    subst er3
    subst er2
    subst er1
    exact rfl
  rw [hfn] at hQ
  exact hQ _ _ _ _ _ rfl hP hD hS dX5_offset_23

def fX5_clings (G : GS) (n : Int32) : Int32 × (GS) :=
  let r1 : Nat → Bat := fX3_mark G.2.1 G.2.2.1 G.2.2.2.1 G.2.2.2.2.1
  let r2 : Int32 × (Bat) := fX1_putCling G.2.1 n
  let r3 : Int32 × (GS) := fX5_settled (G.1, r2.2, G.2.2.1, G.2.2.2.1, r1, G.2.2.2.2.2) r2.1
  r3
abbrev rX5_clings : Room := { frames := 4, cells := 0, slots := 0, locals := 81 }
theorem mm_X5_clings_1 : Cond.fieldLink RX5 19 "GaugeBounds" "states" "LGaugeBounds$States;" ∈ wsX5_clings := List.mem_of_getElem? (i := 1) rfl
theorem mm_X5_clings_2 : Cond.fieldLink RX5 10 "GaugeBounds" "battery" "LGaugeBounds$Battery;" ∈ wsX5_clings := List.mem_of_getElem? (i := 2) rfl
theorem ii_X5_clings_X5 : ∀ w ∈ wsX50, w ∈ wsX5_clings := fun _ h => List.mem_cons_of_mem _ (List.mem_append_left _ (List.mem_append_left _ (List.mem_append_left _ (List.mem_append_left _ (List.mem_append_right _ (h))))))
theorem qvX5_clings : yX5_clings.cls = RX5 ∧ yX5_clings.cls ≠ "java/lang/invoke/MethodHandle" ∧ yX5_clings.cls ≠ "java/lang/invoke/VarHandle" ∧ (parseMethodDescriptor yX5_clings.desc).map (fun d => d.parameters.length) = some 1 := by decide +kernel
set_option maxHeartbeats 4000000 in
set_option maxRecDepth 100000 in
theorem kX5_clings (l : Launch) (E : gEnv) (g0 : Nat) (b : Nat → Nat) (u0 u1 : Nat) (rr : Nat → Nat → Nat) (t : Nat → Nat) (G : GS) (n : Int32) (hj : G.2.2.1 < 6) : gMi l E yX5_clings wsX5_clings rX5_clings [.ref g0, .int n] (wG E g0 b u0 u1 rr t G) (fX5_clings G n).1 (wG E g0 b u0 u1 rr t ((fX5_clings G n).2)) := by
  refine gMi_of (cc := cX5_clings) (maxL := 2) (ret := (some .int)) (by decide) rfl rfl (Nat.le_of_ble_eq_true rfl) ?_
  intro p e s m args below meth c A Q ls hB hQ
  obtain ⟨hx, hb, hml, hown, hts, hK, hP, hD, hA, hS, hl⟩ := hB
  have hown : s.vm.findClass RX5 = some m.cls := hown
  have hP : va_P E.1 vwCl ((g0, .inr (5, [.ref (b 0), .ref u0, .ref (t 0), .int (G.1 0), .int (G.1 1), .int (G.1 2)])) :: ((wB E b G.2.1) ++ ((u0, .inr (3, [.ref u1, .int (nI G.2.2.1), .int G.2.2.2.1])) :: ((u1, .inl (eO E, 6, .inr (.inr (.inr (.inr (fun k => some (rr k 0))))))) :: ((wRg E rr G.2.2.2.2.1) ++ (wT E t G.2.2.2.2.2)))))) s.heap := hP
  have hD : va_D A ((g0, .inr (5, [.ref (b 0), .ref u0, .ref (t 0), .int (G.1 0), .int (G.1 1), .int (G.1 2)])) :: ((wB E b G.2.1) ++ ((u0, .inr (3, [.ref u1, .int (nI G.2.2.1), .int G.2.2.2.1])) :: ((u1, .inl (eO E, 6, .inr (.inr (.inr (.inr (fun k => some (rr k 0))))))) :: ((wRg E rr G.2.2.2.2.1) ++ (wT E t G.2.2.2.2.2)))))) := hD
  have hl : lv_has ls 2 [(0, .ref g0), (1, .int n)] := hl
  refine lv_aload_n (pc := 0) hx hb dX5_clings_0 rfl (lv_at hl 0 rfl) ?_
  refine g_get (v := .ref u0) (pc := 1) hx hb hts ii_X5_clings_X5 hown hK.1 hP 0 rfl rfl 1 (by decide) ⟨rfl, rfl, rfl⟩ mm_X5_clings_1 rfl dX5_clings_1 ?_
  refine lv_aload_n (pc := 4) hx hb dX5_clings_4 rfl (lv_at hl 0 rfl) ?_
  refine g_get (v := .ref (b 0)) (pc := 5) hx hb hts ii_X5_clings_X5 hown hK.1 hP 0 rfl rfl 0 (by decide) ⟨rfl, rfl, rfl⟩ mm_X5_clings_2 rfl dX5_clings_5 ?_
  obtain ⟨r1, er1⟩ : ∃ z : Nat → Bat, fX3_mark G.2.1 G.2.2.1 G.2.2.2.1 G.2.2.2.2.1 = z := ⟨_, rfl⟩
  have hr1 := kX3_mark l E b u0 u1 rr G.2.1 G.2.2.1 G.2.2.2.1 G.2.2.2.2.1 hj
  rw [er1] at hr1
  refine gcVv (pc := 8) (w1 := ((g0, .inr (5, [.ref (b 0), .ref u0, .ref (t 0), .int (G.1 0), .int (G.1 1), .int (G.1 2)])) :: ((wB E b G.2.1) ++ ((u0, .inr (3, [.ref u1, .int (nI G.2.2.1), .int G.2.2.2.1])) :: ((u1, .inl (eO E, 6, .inr (.inr (.inr (.inr (fun k => some (rr k 0))))))) :: ((wRg E rr r1) ++ (wT E t G.2.2.2.2.2))))))) (pre := [(g0, .inr (5, [.ref (b 0), .ref u0, .ref (t 0), .int (G.1 0), .int (G.1 1), .int (G.1 2)]))]) (post := (wT E t G.2.2.2.2.2)) (As := [.ref (b 0)]) (rest := []) (q0 := 6) ⟨hx, hb, hml, hown, hts⟩ hr1 (cwV 1 hts gX5_clings_X3_mark rfl rfl rfl qvX3_mark ⟨Nat.le_of_ble_eq_true rfl, Nat.le_of_ble_eq_true rfl⟩) hK hP hD hS hA (by simp only [List.cons_append, List.append_assoc, List.nil_append, List.append_nil]) (by simp only [List.cons_append, List.append_assoc, List.nil_append, List.append_nil]) rfl rfl rfl hl.1 rfl (Nat.le_of_ble_eq_true rfl) dX5_clings_8 ⟨Nat.zero_le _, Nat.zero_le _⟩ (fun H locs hP hD hS => ?_)
  refine lv_aload_n (pc := 11) hx hb dX5_clings_11 rfl (lv_at hl 0 rfl) ?_
  refine lv_aload_n (pc := 12) hx hb dX5_clings_12 rfl (lv_at hl 0 rfl) ?_
  refine g_get (v := .ref (b 0)) (pc := 13) hx hb hts ii_X5_clings_X5 hown hK.1 hP 0 rfl rfl 0 (by decide) ⟨rfl, rfl, rfl⟩ mm_X5_clings_2 rfl dX5_clings_13 ?_
  refine lv_iload_n (pc := 16) hx hb dX5_clings_16 rfl (lv_at hl 1 rfl) ?_
  obtain ⟨r2, er2⟩ : ∃ z : Int32 × (Bat), fX1_putCling G.2.1 n = z := ⟨_, rfl⟩
  have hr2 := kX1_putCling l E b G.2.1 n
  rw [er2] at hr2
  refine gcVi (pc := 17) (w1 := ((g0, .inr (5, [.ref (b 0), .ref u0, .ref (t 0), .int (G.1 0), .int (G.1 1), .int (G.1 2)])) :: ((wB E b r2.2) ++ ((u0, .inr (3, [.ref u1, .int (nI G.2.2.1), .int G.2.2.2.1])) :: ((u1, .inl (eO E, 6, .inr (.inr (.inr (.inr (fun k => some (rr k 0))))))) :: ((wRg E rr r1) ++ (wT E t G.2.2.2.2.2))))))) (pre := [(g0, .inr (5, [.ref (b 0), .ref u0, .ref (t 0), .int (G.1 0), .int (G.1 1), .int (G.1 2)]))]) (post := ((u0, .inr (3, [.ref u1, .int (nI G.2.2.1), .int G.2.2.2.1])) :: ((u1, .inl (eO E, 6, .inr (.inr (.inr (.inr (fun k => some (rr k 0))))))) :: ((wRg E rr r1) ++ (wT E t G.2.2.2.2.2))))) (As := [.int n]) (rest := [.ref g0]) (q0 := 0) ⟨hx, hb, hml, hown, hts⟩ hr2 (cwV 1 hts gX5_clings_X1_putCling rfl rfl rfl qvX1_putCling ⟨Nat.le_of_ble_eq_true rfl, Nat.le_of_ble_eq_true rfl⟩) hK hP hD hS hA (by simp only [List.cons_append, List.append_assoc, List.nil_append, List.append_nil]) (by simp only [List.cons_append, List.append_assoc, List.nil_append, List.append_nil]) rfl rfl rfl hl.1 rfl (Nat.le_of_ble_eq_true rfl) dX5_clings_17 ⟨Nat.zero_le _, Nat.zero_le _⟩ (fun H locs hP hD hS => ?_)
  obtain ⟨r3, er3⟩ : ∃ z : Int32 × (GS), fX5_settled (G.1, r2.2, G.2.2.1, G.2.2.2.1, r1, G.2.2.2.2.2) r2.1 = z := ⟨_, rfl⟩
  have hr3 := kX5_settled l E g0 b u0 u1 rr t (G.1, r2.2, G.2.2.1, G.2.2.2.1, r1, G.2.2.2.2.2) r2.1 hj
  rw [er3] at hr3
  refine gcVi0 (pc := 20) (w1 := ((g0, .inr (5, [.ref (b 0), .ref u0, .ref (t 0), .int (r3.2.1 0), .int (r3.2.1 1), .int (r3.2.1 2)])) :: ((wB E b r3.2.2.1) ++ ((u0, .inr (3, [.ref u1, .int (nI r3.2.2.2.1), .int r3.2.2.2.2.1])) :: ((u1, .inl (eO E, 6, .inr (.inr (.inr (.inr (fun k => some (rr k 0))))))) :: ((wRg E rr r3.2.2.2.2.2.1) ++ (wT E t r3.2.2.2.2.2.2))))))) (As := [.int r2.1]) (rest := []) (q0 := 0) ⟨hx, hb, hml, hown, hts⟩ hr3 (cwV 1 hts gX5_clings_X5_settled rfl rfl rfl qvX5_settled ⟨Nat.le_of_ble_eq_true rfl, Nat.le_of_ble_eq_true rfl⟩) hK hP hD hS hA rfl rfl rfl rfl rfl hl.1 rfl (Nat.le_of_ble_eq_true rfl) dX5_clings_20 ⟨Nat.zero_le _, Nat.zero_le _⟩ (fun H locs hP hD hS => ?_)
  have hfn : fX5_clings G n = r3 := by
    subst er3
    subst er2
    subst er1
    exact rfl
  rw [hfn] at hQ
  exact hQ _ _ _ _ _ rfl hP hD hS dX5_clings_23

def fX5_curve (G : GS) (k : Int32) (v : Int32) : Int32 × (GS) :=
  let r1 : Nat → Bat := fX3_mark G.2.1 G.2.2.1 G.2.2.2.1 G.2.2.2.2.1
  let r2 : Int32 × (Bat) := fX1_putPoint G.2.1 k v
  let r3 : Int32 × (GS) := fX5_settled (G.1, r2.2, G.2.2.1, G.2.2.2.1, r1, G.2.2.2.2.2) r2.1
  r3
abbrev rX5_curve : Room := { frames := 4, cells := 0, slots := 0, locals := 81 }
theorem mm_X5_curve_1 : Cond.fieldLink RX5 19 "GaugeBounds" "states" "LGaugeBounds$States;" ∈ wsX5_curve := List.mem_of_getElem? (i := 1) rfl
theorem mm_X5_curve_2 : Cond.fieldLink RX5 10 "GaugeBounds" "battery" "LGaugeBounds$Battery;" ∈ wsX5_curve := List.mem_of_getElem? (i := 2) rfl
theorem ii_X5_curve_X5 : ∀ w ∈ wsX50, w ∈ wsX5_curve := fun _ h => List.mem_cons_of_mem _ (List.mem_append_left _ (List.mem_append_left _ (List.mem_append_left _ (List.mem_append_left _ (List.mem_append_right _ (h))))))
theorem qvX5_curve : yX5_curve.cls = RX5 ∧ yX5_curve.cls ≠ "java/lang/invoke/MethodHandle" ∧ yX5_curve.cls ≠ "java/lang/invoke/VarHandle" ∧ (parseMethodDescriptor yX5_curve.desc).map (fun d => d.parameters.length) = some 2 := by decide +kernel
set_option maxHeartbeats 4000000 in
set_option maxRecDepth 100000 in
theorem kX5_curve (l : Launch) (E : gEnv) (g0 : Nat) (b : Nat → Nat) (u0 u1 : Nat) (rr : Nat → Nat → Nat) (t : Nat → Nat) (G : GS) (k : Int32) (v : Int32) (hj : G.2.2.1 < 6) : gMi l E yX5_curve wsX5_curve rX5_curve [.ref g0, .int k, .int v] (wG E g0 b u0 u1 rr t G) (fX5_curve G k v).1 (wG E g0 b u0 u1 rr t ((fX5_curve G k v).2)) := by
  refine gMi_of (cc := cX5_curve) (maxL := 3) (ret := (some .int)) (by decide) rfl rfl (Nat.le_of_ble_eq_true rfl) ?_
  intro p e s m args below meth c A Q ls hB hQ
  obtain ⟨hx, hb, hml, hown, hts, hK, hP, hD, hA, hS, hl⟩ := hB
  have hown : s.vm.findClass RX5 = some m.cls := hown
  have hP : va_P E.1 vwCl ((g0, .inr (5, [.ref (b 0), .ref u0, .ref (t 0), .int (G.1 0), .int (G.1 1), .int (G.1 2)])) :: ((wB E b G.2.1) ++ ((u0, .inr (3, [.ref u1, .int (nI G.2.2.1), .int G.2.2.2.1])) :: ((u1, .inl (eO E, 6, .inr (.inr (.inr (.inr (fun k => some (rr k 0))))))) :: ((wRg E rr G.2.2.2.2.1) ++ (wT E t G.2.2.2.2.2)))))) s.heap := hP
  have hD : va_D A ((g0, .inr (5, [.ref (b 0), .ref u0, .ref (t 0), .int (G.1 0), .int (G.1 1), .int (G.1 2)])) :: ((wB E b G.2.1) ++ ((u0, .inr (3, [.ref u1, .int (nI G.2.2.1), .int G.2.2.2.1])) :: ((u1, .inl (eO E, 6, .inr (.inr (.inr (.inr (fun k => some (rr k 0))))))) :: ((wRg E rr G.2.2.2.2.1) ++ (wT E t G.2.2.2.2.2)))))) := hD
  have hl : lv_has ls 3 [(0, .ref g0), (1, .int k), (2, .int v)] := hl
  refine lv_aload_n (pc := 0) hx hb dX5_curve_0 rfl (lv_at hl 0 rfl) ?_
  refine g_get (v := .ref u0) (pc := 1) hx hb hts ii_X5_curve_X5 hown hK.1 hP 0 rfl rfl 1 (by decide) ⟨rfl, rfl, rfl⟩ mm_X5_curve_1 rfl dX5_curve_1 ?_
  refine lv_aload_n (pc := 4) hx hb dX5_curve_4 rfl (lv_at hl 0 rfl) ?_
  refine g_get (v := .ref (b 0)) (pc := 5) hx hb hts ii_X5_curve_X5 hown hK.1 hP 0 rfl rfl 0 (by decide) ⟨rfl, rfl, rfl⟩ mm_X5_curve_2 rfl dX5_curve_5 ?_
  obtain ⟨r1, er1⟩ : ∃ z : Nat → Bat, fX3_mark G.2.1 G.2.2.1 G.2.2.2.1 G.2.2.2.2.1 = z := ⟨_, rfl⟩
  have hr1 := kX3_mark l E b u0 u1 rr G.2.1 G.2.2.1 G.2.2.2.1 G.2.2.2.2.1 hj
  rw [er1] at hr1
  refine gcVv (pc := 8) (w1 := ((g0, .inr (5, [.ref (b 0), .ref u0, .ref (t 0), .int (G.1 0), .int (G.1 1), .int (G.1 2)])) :: ((wB E b G.2.1) ++ ((u0, .inr (3, [.ref u1, .int (nI G.2.2.1), .int G.2.2.2.1])) :: ((u1, .inl (eO E, 6, .inr (.inr (.inr (.inr (fun k => some (rr k 0))))))) :: ((wRg E rr r1) ++ (wT E t G.2.2.2.2.2))))))) (pre := [(g0, .inr (5, [.ref (b 0), .ref u0, .ref (t 0), .int (G.1 0), .int (G.1 1), .int (G.1 2)]))]) (post := (wT E t G.2.2.2.2.2)) (As := [.ref (b 0)]) (rest := []) (q0 := 6) ⟨hx, hb, hml, hown, hts⟩ hr1 (cwV 1 hts gX5_curve_X3_mark rfl rfl rfl qvX3_mark ⟨Nat.le_of_ble_eq_true rfl, Nat.le_of_ble_eq_true rfl⟩) hK hP hD hS hA (by simp only [List.cons_append, List.append_assoc, List.nil_append, List.append_nil]) (by simp only [List.cons_append, List.append_assoc, List.nil_append, List.append_nil]) rfl rfl rfl hl.1 rfl (Nat.le_of_ble_eq_true rfl) dX5_curve_8 ⟨Nat.zero_le _, Nat.zero_le _⟩ (fun H locs hP hD hS => ?_)
  refine lv_aload_n (pc := 11) hx hb dX5_curve_11 rfl (lv_at hl 0 rfl) ?_
  refine lv_aload_n (pc := 12) hx hb dX5_curve_12 rfl (lv_at hl 0 rfl) ?_
  refine g_get (v := .ref (b 0)) (pc := 13) hx hb hts ii_X5_curve_X5 hown hK.1 hP 0 rfl rfl 0 (by decide) ⟨rfl, rfl, rfl⟩ mm_X5_curve_2 rfl dX5_curve_13 ?_
  refine lv_iload_n (pc := 16) hx hb dX5_curve_16 rfl (lv_at hl 1 rfl) ?_
  refine lv_iload_n (pc := 17) hx hb dX5_curve_17 rfl (lv_at hl 2 rfl) ?_
  obtain ⟨r2, er2⟩ : ∃ z : Int32 × (Bat), fX1_putPoint G.2.1 k v = z := ⟨_, rfl⟩
  have hr2 := kX1_putPoint l E b G.2.1 k v
  rw [er2] at hr2
  refine gcVi (pc := 18) (w1 := ((g0, .inr (5, [.ref (b 0), .ref u0, .ref (t 0), .int (G.1 0), .int (G.1 1), .int (G.1 2)])) :: ((wB E b r2.2) ++ ((u0, .inr (3, [.ref u1, .int (nI G.2.2.1), .int G.2.2.2.1])) :: ((u1, .inl (eO E, 6, .inr (.inr (.inr (.inr (fun k => some (rr k 0))))))) :: ((wRg E rr r1) ++ (wT E t G.2.2.2.2.2))))))) (pre := [(g0, .inr (5, [.ref (b 0), .ref u0, .ref (t 0), .int (G.1 0), .int (G.1 1), .int (G.1 2)]))]) (post := ((u0, .inr (3, [.ref u1, .int (nI G.2.2.1), .int G.2.2.2.1])) :: ((u1, .inl (eO E, 6, .inr (.inr (.inr (.inr (fun k => some (rr k 0))))))) :: ((wRg E rr r1) ++ (wT E t G.2.2.2.2.2))))) (As := [.int k, .int v]) (rest := [.ref g0]) (q0 := 0) ⟨hx, hb, hml, hown, hts⟩ hr2 (cwV 2 hts gX5_curve_X1_putPoint rfl rfl rfl qvX1_putPoint ⟨Nat.le_of_ble_eq_true rfl, Nat.le_of_ble_eq_true rfl⟩) hK hP hD hS hA (by simp only [List.cons_append, List.append_assoc, List.nil_append, List.append_nil]) (by simp only [List.cons_append, List.append_assoc, List.nil_append, List.append_nil]) rfl rfl rfl hl.1 rfl (Nat.le_of_ble_eq_true rfl) dX5_curve_18 ⟨Nat.zero_le _, Nat.zero_le _⟩ (fun H locs hP hD hS => ?_)
  obtain ⟨r3, er3⟩ : ∃ z : Int32 × (GS), fX5_settled (G.1, r2.2, G.2.2.1, G.2.2.2.1, r1, G.2.2.2.2.2) r2.1 = z := ⟨_, rfl⟩
  have hr3 := kX5_settled l E g0 b u0 u1 rr t (G.1, r2.2, G.2.2.1, G.2.2.2.1, r1, G.2.2.2.2.2) r2.1 hj
  rw [er3] at hr3
  refine gcVi0 (pc := 21) (w1 := ((g0, .inr (5, [.ref (b 0), .ref u0, .ref (t 0), .int (r3.2.1 0), .int (r3.2.1 1), .int (r3.2.1 2)])) :: ((wB E b r3.2.2.1) ++ ((u0, .inr (3, [.ref u1, .int (nI r3.2.2.2.1), .int r3.2.2.2.2.1])) :: ((u1, .inl (eO E, 6, .inr (.inr (.inr (.inr (fun k => some (rr k 0))))))) :: ((wRg E rr r3.2.2.2.2.2.1) ++ (wT E t r3.2.2.2.2.2.2))))))) (As := [.int r2.1]) (rest := []) (q0 := 0) ⟨hx, hb, hml, hown, hts⟩ hr3 (cwV 1 hts gX5_curve_X5_settled rfl rfl rfl qvX5_settled ⟨Nat.le_of_ble_eq_true rfl, Nat.le_of_ble_eq_true rfl⟩) hK hP hD hS hA rfl rfl rfl rfl rfl hl.1 rfl (Nat.le_of_ble_eq_true rfl) dX5_curve_21 ⟨Nat.zero_le _, Nat.zero_le _⟩ (fun H locs hP hD hS => ?_)
  have hfn : fX5_curve G k v = r3 := by
    subst er3
    subst er2
    subst er1
    exact rfl
  rw [hfn] at hQ
  exact hQ _ _ _ _ _ rfl hP hD hS dX5_curve_24

def fX5_passes (G : GS) (i : Int32) (n : Int32) : Int32 × (GS) :=
  let r1 : Nat → Bat := fX3_mark G.2.1 G.2.2.1 G.2.2.2.1 G.2.2.2.2.1
  let r2 : Int32 × (Bat) := fX1_pass G.2.1 i n
  let r3 : Int32 × (GS) := fX5_settled (G.1, r2.2, G.2.2.1, G.2.2.2.1, r1, G.2.2.2.2.2) r2.1
  r3
abbrev rX5_passes : Room := { frames := 4, cells := 0, slots := 0, locals := 81 }
theorem mm_X5_passes_1 : Cond.fieldLink RX5 19 "GaugeBounds" "states" "LGaugeBounds$States;" ∈ wsX5_passes := List.mem_of_getElem? (i := 1) rfl
theorem mm_X5_passes_2 : Cond.fieldLink RX5 10 "GaugeBounds" "battery" "LGaugeBounds$Battery;" ∈ wsX5_passes := List.mem_of_getElem? (i := 2) rfl
theorem ii_X5_passes_X5 : ∀ w ∈ wsX50, w ∈ wsX5_passes := fun _ h => List.mem_cons_of_mem _ (List.mem_append_left _ (List.mem_append_left _ (List.mem_append_left _ (List.mem_append_left _ (List.mem_append_right _ (h))))))
theorem qvX5_passes : yX5_passes.cls = RX5 ∧ yX5_passes.cls ≠ "java/lang/invoke/MethodHandle" ∧ yX5_passes.cls ≠ "java/lang/invoke/VarHandle" ∧ (parseMethodDescriptor yX5_passes.desc).map (fun d => d.parameters.length) = some 2 := by decide +kernel
set_option maxHeartbeats 4000000 in
set_option maxRecDepth 100000 in
theorem kX5_passes (l : Launch) (E : gEnv) (g0 : Nat) (b : Nat → Nat) (u0 u1 : Nat) (rr : Nat → Nat → Nat) (t : Nat → Nat) (G : GS) (i : Int32) (n : Int32) (hj : G.2.2.1 < 6) : gMi l E yX5_passes wsX5_passes rX5_passes [.ref g0, .int i, .int n] (wG E g0 b u0 u1 rr t G) (fX5_passes G i n).1 (wG E g0 b u0 u1 rr t ((fX5_passes G i n).2)) := by
  refine gMi_of (cc := cX5_passes) (maxL := 3) (ret := (some .int)) (by decide) rfl rfl (Nat.le_of_ble_eq_true rfl) ?_
  intro p e s m args below meth c A Q ls hB hQ
  obtain ⟨hx, hb, hml, hown, hts, hK, hP, hD, hA, hS, hl⟩ := hB
  have hown : s.vm.findClass RX5 = some m.cls := hown
  have hP : va_P E.1 vwCl ((g0, .inr (5, [.ref (b 0), .ref u0, .ref (t 0), .int (G.1 0), .int (G.1 1), .int (G.1 2)])) :: ((wB E b G.2.1) ++ ((u0, .inr (3, [.ref u1, .int (nI G.2.2.1), .int G.2.2.2.1])) :: ((u1, .inl (eO E, 6, .inr (.inr (.inr (.inr (fun k => some (rr k 0))))))) :: ((wRg E rr G.2.2.2.2.1) ++ (wT E t G.2.2.2.2.2)))))) s.heap := hP
  have hD : va_D A ((g0, .inr (5, [.ref (b 0), .ref u0, .ref (t 0), .int (G.1 0), .int (G.1 1), .int (G.1 2)])) :: ((wB E b G.2.1) ++ ((u0, .inr (3, [.ref u1, .int (nI G.2.2.1), .int G.2.2.2.1])) :: ((u1, .inl (eO E, 6, .inr (.inr (.inr (.inr (fun k => some (rr k 0))))))) :: ((wRg E rr G.2.2.2.2.1) ++ (wT E t G.2.2.2.2.2)))))) := hD
  have hl : lv_has ls 3 [(0, .ref g0), (1, .int i), (2, .int n)] := hl
  refine lv_aload_n (pc := 0) hx hb dX5_passes_0 rfl (lv_at hl 0 rfl) ?_
  refine g_get (v := .ref u0) (pc := 1) hx hb hts ii_X5_passes_X5 hown hK.1 hP 0 rfl rfl 1 (by decide) ⟨rfl, rfl, rfl⟩ mm_X5_passes_1 rfl dX5_passes_1 ?_
  refine lv_aload_n (pc := 4) hx hb dX5_passes_4 rfl (lv_at hl 0 rfl) ?_
  refine g_get (v := .ref (b 0)) (pc := 5) hx hb hts ii_X5_passes_X5 hown hK.1 hP 0 rfl rfl 0 (by decide) ⟨rfl, rfl, rfl⟩ mm_X5_passes_2 rfl dX5_passes_5 ?_
  obtain ⟨r1, er1⟩ : ∃ z : Nat → Bat, fX3_mark G.2.1 G.2.2.1 G.2.2.2.1 G.2.2.2.2.1 = z := ⟨_, rfl⟩
  have hr1 := kX3_mark l E b u0 u1 rr G.2.1 G.2.2.1 G.2.2.2.1 G.2.2.2.2.1 hj
  rw [er1] at hr1
  refine gcVv (pc := 8) (w1 := ((g0, .inr (5, [.ref (b 0), .ref u0, .ref (t 0), .int (G.1 0), .int (G.1 1), .int (G.1 2)])) :: ((wB E b G.2.1) ++ ((u0, .inr (3, [.ref u1, .int (nI G.2.2.1), .int G.2.2.2.1])) :: ((u1, .inl (eO E, 6, .inr (.inr (.inr (.inr (fun k => some (rr k 0))))))) :: ((wRg E rr r1) ++ (wT E t G.2.2.2.2.2))))))) (pre := [(g0, .inr (5, [.ref (b 0), .ref u0, .ref (t 0), .int (G.1 0), .int (G.1 1), .int (G.1 2)]))]) (post := (wT E t G.2.2.2.2.2)) (As := [.ref (b 0)]) (rest := []) (q0 := 6) ⟨hx, hb, hml, hown, hts⟩ hr1 (cwV 1 hts gX5_passes_X3_mark rfl rfl rfl qvX3_mark ⟨Nat.le_of_ble_eq_true rfl, Nat.le_of_ble_eq_true rfl⟩) hK hP hD hS hA (by simp only [List.cons_append, List.append_assoc, List.nil_append, List.append_nil]) (by simp only [List.cons_append, List.append_assoc, List.nil_append, List.append_nil]) rfl rfl rfl hl.1 rfl (Nat.le_of_ble_eq_true rfl) dX5_passes_8 ⟨Nat.zero_le _, Nat.zero_le _⟩ (fun H locs hP hD hS => ?_)
  refine lv_aload_n (pc := 11) hx hb dX5_passes_11 rfl (lv_at hl 0 rfl) ?_
  refine lv_aload_n (pc := 12) hx hb dX5_passes_12 rfl (lv_at hl 0 rfl) ?_
  refine g_get (v := .ref (b 0)) (pc := 13) hx hb hts ii_X5_passes_X5 hown hK.1 hP 0 rfl rfl 0 (by decide) ⟨rfl, rfl, rfl⟩ mm_X5_passes_2 rfl dX5_passes_13 ?_
  refine lv_iload_n (pc := 16) hx hb dX5_passes_16 rfl (lv_at hl 1 rfl) ?_
  refine lv_iload_n (pc := 17) hx hb dX5_passes_17 rfl (lv_at hl 2 rfl) ?_
  obtain ⟨r2, er2⟩ : ∃ z : Int32 × (Bat), fX1_pass G.2.1 i n = z := ⟨_, rfl⟩
  have hr2 := kX1_pass l E b G.2.1 i n
  rw [er2] at hr2
  refine gcVi (pc := 18) (w1 := ((g0, .inr (5, [.ref (b 0), .ref u0, .ref (t 0), .int (G.1 0), .int (G.1 1), .int (G.1 2)])) :: ((wB E b r2.2) ++ ((u0, .inr (3, [.ref u1, .int (nI G.2.2.1), .int G.2.2.2.1])) :: ((u1, .inl (eO E, 6, .inr (.inr (.inr (.inr (fun k => some (rr k 0))))))) :: ((wRg E rr r1) ++ (wT E t G.2.2.2.2.2))))))) (pre := [(g0, .inr (5, [.ref (b 0), .ref u0, .ref (t 0), .int (G.1 0), .int (G.1 1), .int (G.1 2)]))]) (post := ((u0, .inr (3, [.ref u1, .int (nI G.2.2.1), .int G.2.2.2.1])) :: ((u1, .inl (eO E, 6, .inr (.inr (.inr (.inr (fun k => some (rr k 0))))))) :: ((wRg E rr r1) ++ (wT E t G.2.2.2.2.2))))) (As := [.int i, .int n]) (rest := [.ref g0]) (q0 := 0) ⟨hx, hb, hml, hown, hts⟩ hr2 (cwV 2 hts gX5_passes_X1_pass rfl rfl rfl qvX1_pass ⟨Nat.le_of_ble_eq_true rfl, Nat.le_of_ble_eq_true rfl⟩) hK hP hD hS hA (by simp only [List.cons_append, List.append_assoc, List.nil_append, List.append_nil]) (by simp only [List.cons_append, List.append_assoc, List.nil_append, List.append_nil]) rfl rfl rfl hl.1 rfl (Nat.le_of_ble_eq_true rfl) dX5_passes_18 ⟨Nat.zero_le _, Nat.zero_le _⟩ (fun H locs hP hD hS => ?_)
  obtain ⟨r3, er3⟩ : ∃ z : Int32 × (GS), fX5_settled (G.1, r2.2, G.2.2.1, G.2.2.2.1, r1, G.2.2.2.2.2) r2.1 = z := ⟨_, rfl⟩
  have hr3 := kX5_settled l E g0 b u0 u1 rr t (G.1, r2.2, G.2.2.1, G.2.2.2.1, r1, G.2.2.2.2.2) r2.1 hj
  rw [er3] at hr3
  refine gcVi0 (pc := 21) (w1 := ((g0, .inr (5, [.ref (b 0), .ref u0, .ref (t 0), .int (r3.2.1 0), .int (r3.2.1 1), .int (r3.2.1 2)])) :: ((wB E b r3.2.2.1) ++ ((u0, .inr (3, [.ref u1, .int (nI r3.2.2.2.1), .int r3.2.2.2.2.1])) :: ((u1, .inl (eO E, 6, .inr (.inr (.inr (.inr (fun k => some (rr k 0))))))) :: ((wRg E rr r3.2.2.2.2.2.1) ++ (wT E t r3.2.2.2.2.2.2))))))) (As := [.int r2.1]) (rest := []) (q0 := 0) ⟨hx, hb, hml, hown, hts⟩ hr3 (cwV 1 hts gX5_passes_X5_settled rfl rfl rfl qvX5_settled ⟨Nat.le_of_ble_eq_true rfl, Nat.le_of_ble_eq_true rfl⟩) hK hP hD hS hA rfl rfl rfl rfl rfl hl.1 rfl (Nat.le_of_ble_eq_true rfl) dX5_passes_21 ⟨Nat.zero_le _, Nat.zero_le _⟩ (fun H locs hP hD hS => ?_)
  have hfn : fX5_passes G i n = r3 := by
    subst er3
    subst er2
    subst er1
    exact rfl
  rw [hfn] at hQ
  exact hQ _ _ _ _ _ rfl hP hD hS dX5_passes_24

def fX5_rests (G : GS) (v : Int32) : Int32 × (GS) :=
  let r1 : Nat → Bat := fX3_mark G.2.1 G.2.2.1 G.2.2.2.1 G.2.2.2.2.1
  let r2 : Int32 × (Bat) := fX1_rest G.2.1 v
  let r3 : Int32 × (GS) := fX5_settled (G.1, r2.2, G.2.2.1, G.2.2.2.1, r1, G.2.2.2.2.2) r2.1
  r3
abbrev rX5_rests : Room := { frames := 5, cells := 0, slots := 0, locals := 115 }
theorem mm_X5_rests_1 : Cond.fieldLink RX5 19 "GaugeBounds" "states" "LGaugeBounds$States;" ∈ wsX5_rests := List.mem_of_getElem? (i := 1) rfl
theorem mm_X5_rests_2 : Cond.fieldLink RX5 10 "GaugeBounds" "battery" "LGaugeBounds$Battery;" ∈ wsX5_rests := List.mem_of_getElem? (i := 2) rfl
theorem ii_X5_rests_X5 : ∀ w ∈ wsX50, w ∈ wsX5_rests := fun _ h => List.mem_cons_of_mem _ (List.mem_append_left _ (List.mem_append_left _ (List.mem_append_left _ (List.mem_append_left _ (List.mem_append_right _ (h))))))
theorem qvX5_rests : yX5_rests.cls = RX5 ∧ yX5_rests.cls ≠ "java/lang/invoke/MethodHandle" ∧ yX5_rests.cls ≠ "java/lang/invoke/VarHandle" ∧ (parseMethodDescriptor yX5_rests.desc).map (fun d => d.parameters.length) = some 1 := by decide +kernel
set_option maxHeartbeats 4000000 in
set_option maxRecDepth 100000 in
theorem kX5_rests (l : Launch) (E : gEnv) (g0 : Nat) (b : Nat → Nat) (u0 u1 : Nat) (rr : Nat → Nat → Nat) (t : Nat → Nat) (G : GS) (v : Int32) (hj : G.2.2.1 < 6) : gMi l E yX5_rests wsX5_rests rX5_rests [.ref g0, .int v] (wG E g0 b u0 u1 rr t G) (fX5_rests G v).1 (wG E g0 b u0 u1 rr t ((fX5_rests G v).2)) := by
  refine gMi_of (cc := cX5_rests) (maxL := 2) (ret := (some .int)) (by decide) rfl rfl (Nat.le_of_ble_eq_true rfl) ?_
  intro p e s m args below meth c A Q ls hB hQ
  obtain ⟨hx, hb, hml, hown, hts, hK, hP, hD, hA, hS, hl⟩ := hB
  have hown : s.vm.findClass RX5 = some m.cls := hown
  have hP : va_P E.1 vwCl ((g0, .inr (5, [.ref (b 0), .ref u0, .ref (t 0), .int (G.1 0), .int (G.1 1), .int (G.1 2)])) :: ((wB E b G.2.1) ++ ((u0, .inr (3, [.ref u1, .int (nI G.2.2.1), .int G.2.2.2.1])) :: ((u1, .inl (eO E, 6, .inr (.inr (.inr (.inr (fun k => some (rr k 0))))))) :: ((wRg E rr G.2.2.2.2.1) ++ (wT E t G.2.2.2.2.2)))))) s.heap := hP
  have hD : va_D A ((g0, .inr (5, [.ref (b 0), .ref u0, .ref (t 0), .int (G.1 0), .int (G.1 1), .int (G.1 2)])) :: ((wB E b G.2.1) ++ ((u0, .inr (3, [.ref u1, .int (nI G.2.2.1), .int G.2.2.2.1])) :: ((u1, .inl (eO E, 6, .inr (.inr (.inr (.inr (fun k => some (rr k 0))))))) :: ((wRg E rr G.2.2.2.2.1) ++ (wT E t G.2.2.2.2.2)))))) := hD
  have hl : lv_has ls 2 [(0, .ref g0), (1, .int v)] := hl
  refine lv_aload_n (pc := 0) hx hb dX5_rests_0 rfl (lv_at hl 0 rfl) ?_
  refine g_get (v := .ref u0) (pc := 1) hx hb hts ii_X5_rests_X5 hown hK.1 hP 0 rfl rfl 1 (by decide) ⟨rfl, rfl, rfl⟩ mm_X5_rests_1 rfl dX5_rests_1 ?_
  refine lv_aload_n (pc := 4) hx hb dX5_rests_4 rfl (lv_at hl 0 rfl) ?_
  refine g_get (v := .ref (b 0)) (pc := 5) hx hb hts ii_X5_rests_X5 hown hK.1 hP 0 rfl rfl 0 (by decide) ⟨rfl, rfl, rfl⟩ mm_X5_rests_2 rfl dX5_rests_5 ?_
  obtain ⟨r1, er1⟩ : ∃ z : Nat → Bat, fX3_mark G.2.1 G.2.2.1 G.2.2.2.1 G.2.2.2.2.1 = z := ⟨_, rfl⟩
  have hr1 := kX3_mark l E b u0 u1 rr G.2.1 G.2.2.1 G.2.2.2.1 G.2.2.2.2.1 hj
  rw [er1] at hr1
  refine gcVv (pc := 8) (w1 := ((g0, .inr (5, [.ref (b 0), .ref u0, .ref (t 0), .int (G.1 0), .int (G.1 1), .int (G.1 2)])) :: ((wB E b G.2.1) ++ ((u0, .inr (3, [.ref u1, .int (nI G.2.2.1), .int G.2.2.2.1])) :: ((u1, .inl (eO E, 6, .inr (.inr (.inr (.inr (fun k => some (rr k 0))))))) :: ((wRg E rr r1) ++ (wT E t G.2.2.2.2.2))))))) (pre := [(g0, .inr (5, [.ref (b 0), .ref u0, .ref (t 0), .int (G.1 0), .int (G.1 1), .int (G.1 2)]))]) (post := (wT E t G.2.2.2.2.2)) (As := [.ref (b 0)]) (rest := []) (q0 := 6) ⟨hx, hb, hml, hown, hts⟩ hr1 (cwV 1 hts gX5_rests_X3_mark rfl rfl rfl qvX3_mark ⟨Nat.le_of_ble_eq_true rfl, Nat.le_of_ble_eq_true rfl⟩) hK hP hD hS hA (by simp only [List.cons_append, List.append_assoc, List.nil_append, List.append_nil]) (by simp only [List.cons_append, List.append_assoc, List.nil_append, List.append_nil]) rfl rfl rfl hl.1 rfl (Nat.le_of_ble_eq_true rfl) dX5_rests_8 ⟨Nat.zero_le _, Nat.zero_le _⟩ (fun H locs hP hD hS => ?_)
  refine lv_aload_n (pc := 11) hx hb dX5_rests_11 rfl (lv_at hl 0 rfl) ?_
  refine lv_aload_n (pc := 12) hx hb dX5_rests_12 rfl (lv_at hl 0 rfl) ?_
  refine g_get (v := .ref (b 0)) (pc := 13) hx hb hts ii_X5_rests_X5 hown hK.1 hP 0 rfl rfl 0 (by decide) ⟨rfl, rfl, rfl⟩ mm_X5_rests_2 rfl dX5_rests_13 ?_
  refine lv_iload_n (pc := 16) hx hb dX5_rests_16 rfl (lv_at hl 1 rfl) ?_
  obtain ⟨r2, er2⟩ : ∃ z : Int32 × (Bat), fX1_rest G.2.1 v = z := ⟨_, rfl⟩
  have hr2 := kX1_rest l E b G.2.1 v
  rw [er2] at hr2
  refine gcVi (pc := 17) (w1 := ((g0, .inr (5, [.ref (b 0), .ref u0, .ref (t 0), .int (G.1 0), .int (G.1 1), .int (G.1 2)])) :: ((wB E b r2.2) ++ ((u0, .inr (3, [.ref u1, .int (nI G.2.2.1), .int G.2.2.2.1])) :: ((u1, .inl (eO E, 6, .inr (.inr (.inr (.inr (fun k => some (rr k 0))))))) :: ((wRg E rr r1) ++ (wT E t G.2.2.2.2.2))))))) (pre := [(g0, .inr (5, [.ref (b 0), .ref u0, .ref (t 0), .int (G.1 0), .int (G.1 1), .int (G.1 2)]))]) (post := ((u0, .inr (3, [.ref u1, .int (nI G.2.2.1), .int G.2.2.2.1])) :: ((u1, .inl (eO E, 6, .inr (.inr (.inr (.inr (fun k => some (rr k 0))))))) :: ((wRg E rr r1) ++ (wT E t G.2.2.2.2.2))))) (As := [.int v]) (rest := [.ref g0]) (q0 := 0) ⟨hx, hb, hml, hown, hts⟩ hr2 (cwV 1 hts gX5_rests_X1_rest rfl rfl rfl qvX1_rest ⟨Nat.le_of_ble_eq_true rfl, Nat.le_of_ble_eq_true rfl⟩) hK hP hD hS hA (by simp only [List.cons_append, List.append_assoc, List.nil_append, List.append_nil]) (by simp only [List.cons_append, List.append_assoc, List.nil_append, List.append_nil]) rfl rfl rfl hl.1 rfl (Nat.le_of_ble_eq_true rfl) dX5_rests_17 ⟨Nat.zero_le _, Nat.zero_le _⟩ (fun H locs hP hD hS => ?_)
  obtain ⟨r3, er3⟩ : ∃ z : Int32 × (GS), fX5_settled (G.1, r2.2, G.2.2.1, G.2.2.2.1, r1, G.2.2.2.2.2) r2.1 = z := ⟨_, rfl⟩
  have hr3 := kX5_settled l E g0 b u0 u1 rr t (G.1, r2.2, G.2.2.1, G.2.2.2.1, r1, G.2.2.2.2.2) r2.1 hj
  rw [er3] at hr3
  refine gcVi0 (pc := 20) (w1 := ((g0, .inr (5, [.ref (b 0), .ref u0, .ref (t 0), .int (r3.2.1 0), .int (r3.2.1 1), .int (r3.2.1 2)])) :: ((wB E b r3.2.2.1) ++ ((u0, .inr (3, [.ref u1, .int (nI r3.2.2.2.1), .int r3.2.2.2.2.1])) :: ((u1, .inl (eO E, 6, .inr (.inr (.inr (.inr (fun k => some (rr k 0))))))) :: ((wRg E rr r3.2.2.2.2.2.1) ++ (wT E t r3.2.2.2.2.2.2))))))) (As := [.int r2.1]) (rest := []) (q0 := 0) ⟨hx, hb, hml, hown, hts⟩ hr3 (cwV 1 hts gX5_rests_X5_settled rfl rfl rfl qvX5_settled ⟨Nat.le_of_ble_eq_true rfl, Nat.le_of_ble_eq_true rfl⟩) hK hP hD hS hA rfl rfl rfl rfl rfl hl.1 rfl (Nat.le_of_ble_eq_true rfl) dX5_rests_20 ⟨Nat.zero_le _, Nat.zero_le _⟩ (fun H locs hP hD hS => ?_)
  have hfn : fX5_rests G v = r3 := by
    subst er3
    subst er2
    subst er1
    exact rfl
  rw [hfn] at hQ
  exact hQ _ _ _ _ _ rfl hP hD hS dX5_rests_23

def fX5_loads (G : GS) (i : Int32) (v : Int32) : Int32 × (GS) :=
  let r1 : Nat → Bat := fX3_mark G.2.1 G.2.2.1 G.2.2.2.1 G.2.2.2.2.1
  let r2 : Int32 × (Bat) := fX1_load G.2.1 i v
  let r3 : Int32 × (GS) := fX5_settled (G.1, r2.2, G.2.2.1, G.2.2.2.1, r1, G.2.2.2.2.2) r2.1
  r3
abbrev rX5_loads : Room := { frames := 4, cells := 0, slots := 0, locals := 91 }
theorem mm_X5_loads_1 : Cond.fieldLink RX5 19 "GaugeBounds" "states" "LGaugeBounds$States;" ∈ wsX5_loads := List.mem_of_getElem? (i := 1) rfl
theorem mm_X5_loads_2 : Cond.fieldLink RX5 10 "GaugeBounds" "battery" "LGaugeBounds$Battery;" ∈ wsX5_loads := List.mem_of_getElem? (i := 2) rfl
theorem ii_X5_loads_X5 : ∀ w ∈ wsX50, w ∈ wsX5_loads := fun _ h => List.mem_cons_of_mem _ (List.mem_append_left _ (List.mem_append_left _ (List.mem_append_left _ (List.mem_append_left _ (List.mem_append_right _ (h))))))
theorem qvX5_loads : yX5_loads.cls = RX5 ∧ yX5_loads.cls ≠ "java/lang/invoke/MethodHandle" ∧ yX5_loads.cls ≠ "java/lang/invoke/VarHandle" ∧ (parseMethodDescriptor yX5_loads.desc).map (fun d => d.parameters.length) = some 2 := by decide +kernel
set_option maxHeartbeats 4000000 in
set_option maxRecDepth 100000 in
theorem kX5_loads (l : Launch) (E : gEnv) (g0 : Nat) (b : Nat → Nat) (u0 u1 : Nat) (rr : Nat → Nat → Nat) (t : Nat → Nat) (G : GS) (i : Int32) (v : Int32) (hj : G.2.2.1 < 6) : gMi l E yX5_loads wsX5_loads rX5_loads [.ref g0, .int i, .int v] (wG E g0 b u0 u1 rr t G) (fX5_loads G i v).1 (wG E g0 b u0 u1 rr t ((fX5_loads G i v).2)) := by
  refine gMi_of (cc := cX5_loads) (maxL := 3) (ret := (some .int)) (by decide) rfl rfl (Nat.le_of_ble_eq_true rfl) ?_
  intro p e s m args below meth c A Q ls hB hQ
  obtain ⟨hx, hb, hml, hown, hts, hK, hP, hD, hA, hS, hl⟩ := hB
  have hown : s.vm.findClass RX5 = some m.cls := hown
  have hP : va_P E.1 vwCl ((g0, .inr (5, [.ref (b 0), .ref u0, .ref (t 0), .int (G.1 0), .int (G.1 1), .int (G.1 2)])) :: ((wB E b G.2.1) ++ ((u0, .inr (3, [.ref u1, .int (nI G.2.2.1), .int G.2.2.2.1])) :: ((u1, .inl (eO E, 6, .inr (.inr (.inr (.inr (fun k => some (rr k 0))))))) :: ((wRg E rr G.2.2.2.2.1) ++ (wT E t G.2.2.2.2.2)))))) s.heap := hP
  have hD : va_D A ((g0, .inr (5, [.ref (b 0), .ref u0, .ref (t 0), .int (G.1 0), .int (G.1 1), .int (G.1 2)])) :: ((wB E b G.2.1) ++ ((u0, .inr (3, [.ref u1, .int (nI G.2.2.1), .int G.2.2.2.1])) :: ((u1, .inl (eO E, 6, .inr (.inr (.inr (.inr (fun k => some (rr k 0))))))) :: ((wRg E rr G.2.2.2.2.1) ++ (wT E t G.2.2.2.2.2)))))) := hD
  have hl : lv_has ls 3 [(0, .ref g0), (1, .int i), (2, .int v)] := hl
  refine lv_aload_n (pc := 0) hx hb dX5_loads_0 rfl (lv_at hl 0 rfl) ?_
  refine g_get (v := .ref u0) (pc := 1) hx hb hts ii_X5_loads_X5 hown hK.1 hP 0 rfl rfl 1 (by decide) ⟨rfl, rfl, rfl⟩ mm_X5_loads_1 rfl dX5_loads_1 ?_
  refine lv_aload_n (pc := 4) hx hb dX5_loads_4 rfl (lv_at hl 0 rfl) ?_
  refine g_get (v := .ref (b 0)) (pc := 5) hx hb hts ii_X5_loads_X5 hown hK.1 hP 0 rfl rfl 0 (by decide) ⟨rfl, rfl, rfl⟩ mm_X5_loads_2 rfl dX5_loads_5 ?_
  obtain ⟨r1, er1⟩ : ∃ z : Nat → Bat, fX3_mark G.2.1 G.2.2.1 G.2.2.2.1 G.2.2.2.2.1 = z := ⟨_, rfl⟩
  have hr1 := kX3_mark l E b u0 u1 rr G.2.1 G.2.2.1 G.2.2.2.1 G.2.2.2.2.1 hj
  rw [er1] at hr1
  refine gcVv (pc := 8) (w1 := ((g0, .inr (5, [.ref (b 0), .ref u0, .ref (t 0), .int (G.1 0), .int (G.1 1), .int (G.1 2)])) :: ((wB E b G.2.1) ++ ((u0, .inr (3, [.ref u1, .int (nI G.2.2.1), .int G.2.2.2.1])) :: ((u1, .inl (eO E, 6, .inr (.inr (.inr (.inr (fun k => some (rr k 0))))))) :: ((wRg E rr r1) ++ (wT E t G.2.2.2.2.2))))))) (pre := [(g0, .inr (5, [.ref (b 0), .ref u0, .ref (t 0), .int (G.1 0), .int (G.1 1), .int (G.1 2)]))]) (post := (wT E t G.2.2.2.2.2)) (As := [.ref (b 0)]) (rest := []) (q0 := 6) ⟨hx, hb, hml, hown, hts⟩ hr1 (cwV 1 hts gX5_loads_X3_mark rfl rfl rfl qvX3_mark ⟨Nat.le_of_ble_eq_true rfl, Nat.le_of_ble_eq_true rfl⟩) hK hP hD hS hA (by simp only [List.cons_append, List.append_assoc, List.nil_append, List.append_nil]) (by simp only [List.cons_append, List.append_assoc, List.nil_append, List.append_nil]) rfl rfl rfl hl.1 rfl (Nat.le_of_ble_eq_true rfl) dX5_loads_8 ⟨Nat.zero_le _, Nat.zero_le _⟩ (fun H locs hP hD hS => ?_)
  refine lv_aload_n (pc := 11) hx hb dX5_loads_11 rfl (lv_at hl 0 rfl) ?_
  refine lv_aload_n (pc := 12) hx hb dX5_loads_12 rfl (lv_at hl 0 rfl) ?_
  refine g_get (v := .ref (b 0)) (pc := 13) hx hb hts ii_X5_loads_X5 hown hK.1 hP 0 rfl rfl 0 (by decide) ⟨rfl, rfl, rfl⟩ mm_X5_loads_2 rfl dX5_loads_13 ?_
  refine lv_iload_n (pc := 16) hx hb dX5_loads_16 rfl (lv_at hl 1 rfl) ?_
  refine lv_iload_n (pc := 17) hx hb dX5_loads_17 rfl (lv_at hl 2 rfl) ?_
  obtain ⟨r2, er2⟩ : ∃ z : Int32 × (Bat), fX1_load G.2.1 i v = z := ⟨_, rfl⟩
  have hr2 := kX1_load l E b G.2.1 i v
  rw [er2] at hr2
  refine gcVi (pc := 18) (w1 := ((g0, .inr (5, [.ref (b 0), .ref u0, .ref (t 0), .int (G.1 0), .int (G.1 1), .int (G.1 2)])) :: ((wB E b r2.2) ++ ((u0, .inr (3, [.ref u1, .int (nI G.2.2.1), .int G.2.2.2.1])) :: ((u1, .inl (eO E, 6, .inr (.inr (.inr (.inr (fun k => some (rr k 0))))))) :: ((wRg E rr r1) ++ (wT E t G.2.2.2.2.2))))))) (pre := [(g0, .inr (5, [.ref (b 0), .ref u0, .ref (t 0), .int (G.1 0), .int (G.1 1), .int (G.1 2)]))]) (post := ((u0, .inr (3, [.ref u1, .int (nI G.2.2.1), .int G.2.2.2.1])) :: ((u1, .inl (eO E, 6, .inr (.inr (.inr (.inr (fun k => some (rr k 0))))))) :: ((wRg E rr r1) ++ (wT E t G.2.2.2.2.2))))) (As := [.int i, .int v]) (rest := [.ref g0]) (q0 := 0) ⟨hx, hb, hml, hown, hts⟩ hr2 (cwV 2 hts gX5_loads_X1_load rfl rfl rfl qvX1_load ⟨Nat.le_of_ble_eq_true rfl, Nat.le_of_ble_eq_true rfl⟩) hK hP hD hS hA (by simp only [List.cons_append, List.append_assoc, List.nil_append, List.append_nil]) (by simp only [List.cons_append, List.append_assoc, List.nil_append, List.append_nil]) rfl rfl rfl hl.1 rfl (Nat.le_of_ble_eq_true rfl) dX5_loads_18 ⟨Nat.zero_le _, Nat.zero_le _⟩ (fun H locs hP hD hS => ?_)
  obtain ⟨r3, er3⟩ : ∃ z : Int32 × (GS), fX5_settled (G.1, r2.2, G.2.2.1, G.2.2.2.1, r1, G.2.2.2.2.2) r2.1 = z := ⟨_, rfl⟩
  have hr3 := kX5_settled l E g0 b u0 u1 rr t (G.1, r2.2, G.2.2.1, G.2.2.2.1, r1, G.2.2.2.2.2) r2.1 hj
  rw [er3] at hr3
  refine gcVi0 (pc := 21) (w1 := ((g0, .inr (5, [.ref (b 0), .ref u0, .ref (t 0), .int (r3.2.1 0), .int (r3.2.1 1), .int (r3.2.1 2)])) :: ((wB E b r3.2.2.1) ++ ((u0, .inr (3, [.ref u1, .int (nI r3.2.2.2.1), .int r3.2.2.2.2.1])) :: ((u1, .inl (eO E, 6, .inr (.inr (.inr (.inr (fun k => some (rr k 0))))))) :: ((wRg E rr r3.2.2.2.2.2.1) ++ (wT E t r3.2.2.2.2.2.2))))))) (As := [.int r2.1]) (rest := []) (q0 := 0) ⟨hx, hb, hml, hown, hts⟩ hr3 (cwV 1 hts gX5_loads_X5_settled rfl rfl rfl qvX5_settled ⟨Nat.le_of_ble_eq_true rfl, Nat.le_of_ble_eq_true rfl⟩) hK hP hD hS hA rfl rfl rfl rfl rfl hl.1 rfl (Nat.le_of_ble_eq_true rfl) dX5_loads_21 ⟨Nat.zero_le _, Nat.zero_le _⟩ (fun H locs hP hD hS => ?_)
  have hfn : fX5_loads G i v = r3 := by
    subst er3
    subst er2
    subst er1
    exact rfl
  rw [hfn] at hQ
  exact hQ _ _ _ _ _ rfl hP hD hS dX5_loads_24

def fX5_told (G : GS) (w : Int32) : Int32 × (GS) :=
  let r1 : Int32 := fX5_within w 0 11
  if r1 = 0 then
    let r4 : Int32 × (GS) := fX5_counted G (-10000002)
    r4
  else
    let r3 : Int32 := fX1_tell G.2.1 w
    (r3, G)
abbrev rX5_told : Room := { frames := 3, cells := 0, slots := 0, locals := 55 }
theorem mm_X5_told_2 : Cond.fieldLink RX5 10 "GaugeBounds" "battery" "LGaugeBounds$Battery;" ∈ wsX5_told := List.mem_of_getElem? (i := 2) rfl
theorem mm_X5_told_1 : Cond.constant RX5 67 (-10000002) ∈ wsX5_told := List.mem_of_getElem? (i := 1) rfl
theorem ii_X5_told_X5 : ∀ w ∈ wsX50, w ∈ wsX5_told := fun _ h => List.mem_cons_of_mem _ (List.mem_append_left _ (List.mem_append_right _ (h)))
theorem qvX5_told : yX5_told.cls = RX5 ∧ yX5_told.cls ≠ "java/lang/invoke/MethodHandle" ∧ yX5_told.cls ≠ "java/lang/invoke/VarHandle" ∧ (parseMethodDescriptor yX5_told.desc).map (fun d => d.parameters.length) = some 1 := by decide +kernel
set_option maxHeartbeats 4000000 in
set_option maxRecDepth 100000 in
theorem kX5_told (l : Launch) (E : gEnv) (g0 : Nat) (b : Nat → Nat) (u0 u1 : Nat) (rr : Nat → Nat → Nat) (t : Nat → Nat) (G : GS) (w : Int32) : gMi l E yX5_told wsX5_told rX5_told [.ref g0, .int w] (wG E g0 b u0 u1 rr t G) (fX5_told G w).1 (wG E g0 b u0 u1 rr t ((fX5_told G w).2)) := by
  refine gMi_of (cc := cX5_told) (maxL := 2) (ret := (some .int)) (by decide) rfl rfl (Nat.le_of_ble_eq_true rfl) ?_
  intro p e s m args below meth c A Q ls hB hQ
  obtain ⟨hx, hb, hml, hown, hts, hK, hP, hD, hA, hS, hl⟩ := hB
  have hown : s.vm.findClass RX5 = some m.cls := hown
  have hP : va_P E.1 vwCl ((g0, .inr (5, [.ref (b 0), .ref u0, .ref (t 0), .int (G.1 0), .int (G.1 1), .int (G.1 2)])) :: ((wB E b G.2.1) ++ ((u0, .inr (3, [.ref u1, .int (nI G.2.2.1), .int G.2.2.2.1])) :: ((u1, .inl (eO E, 6, .inr (.inr (.inr (.inr (fun k => some (rr k 0))))))) :: ((wRg E rr G.2.2.2.2.1) ++ (wT E t G.2.2.2.2.2)))))) s.heap := hP
  have hD : va_D A ((g0, .inr (5, [.ref (b 0), .ref u0, .ref (t 0), .int (G.1 0), .int (G.1 1), .int (G.1 2)])) :: ((wB E b G.2.1) ++ ((u0, .inr (3, [.ref u1, .int (nI G.2.2.1), .int G.2.2.2.1])) :: ((u1, .inl (eO E, 6, .inr (.inr (.inr (.inr (fun k => some (rr k 0))))))) :: ((wRg E rr G.2.2.2.2.1) ++ (wT E t G.2.2.2.2.2)))))) := hD
  have hl : lv_has ls 2 [(0, .ref g0), (1, .int w)] := hl
  refine lv_iload_n (pc := 0) hx hb dX5_told_0 rfl (lv_at hl 1 rfl) ?_
  refine lv_iconst (v := 0) (pc := 1) hx hb dX5_told_1 rfl ?_
  refine lv_bipush (v := 11) (pc := 2) hx hb dX5_told_2 rfl ?_
  obtain ⟨r1, er1⟩ : ∃ z : Int32, fX5_within w 0 11 = z := ⟨_, rfl⟩
  have hr1 := kX5_within l E w 0 11
  rw [er1] at hr1
  refine gcSi (pc := 4) (As := [.int w, .int 0, .int 11]) (rest := []) ⟨hx, hb, hml, hown, hts⟩ hr1 (cwS 3 hts gX5_told_X5_within rfl rfl rfl qsX5_within ⟨Nat.le_of_ble_eq_true rfl, Nat.le_of_ble_eq_true rfl⟩) hK hP hD hS hA rfl hl.1 rfl (Nat.le_of_ble_eq_true rfl) dX5_told_4 ⟨Nat.zero_le _, Nat.zero_le _⟩ (fun H locs hP hD hS => ?_)
  refine lv_if_ne (tgt := 17) (pc := 7) hx hb dX5_told_7 (by decide) (fun c_2 => ?_) (fun c_2 => ?_)
  · refine lv_aload_n (pc := 17) hx hb dX5_told_17 rfl (lv_at hl 0 rfl) ?_
    refine g_get (v := .ref (b 0)) (pc := 18) hx hb hts ii_X5_told_X5 hown hK.1 hP 0 rfl rfl 0 (by decide) ⟨rfl, rfl, rfl⟩ mm_X5_told_2 rfl dX5_told_18 ?_
    refine lv_iload_n (pc := 21) hx hb dX5_told_21 rfl (lv_at hl 1 rfl) ?_
    obtain ⟨r3, er3⟩ : ∃ z : Int32, fX1_tell G.2.1 w = z := ⟨_, rfl⟩
    have hr3 := kX1_tell l E b G.2.1 w
    rw [er3] at hr3
    refine gcVi (pc := 22) (w1 := ((g0, .inr (5, [.ref (b 0), .ref u0, .ref (t 0), .int (G.1 0), .int (G.1 1), .int (G.1 2)])) :: ((wB E b G.2.1) ++ ((u0, .inr (3, [.ref u1, .int (nI G.2.2.1), .int G.2.2.2.1])) :: ((u1, .inl (eO E, 6, .inr (.inr (.inr (.inr (fun k => some (rr k 0))))))) :: ((wRg E rr G.2.2.2.2.1) ++ (wT E t G.2.2.2.2.2))))))) (pre := [(g0, .inr (5, [.ref (b 0), .ref u0, .ref (t 0), .int (G.1 0), .int (G.1 1), .int (G.1 2)]))]) (post := ((u0, .inr (3, [.ref u1, .int (nI G.2.2.1), .int G.2.2.2.1])) :: ((u1, .inl (eO E, 6, .inr (.inr (.inr (.inr (fun k => some (rr k 0))))))) :: ((wRg E rr G.2.2.2.2.1) ++ (wT E t G.2.2.2.2.2))))) (As := [.int w]) (rest := []) (q0 := 0) ⟨hx, hb, hml, hown, hts⟩ hr3 (cwV 1 hts gX5_told_X1_tell rfl rfl rfl qvX1_tell ⟨Nat.le_of_ble_eq_true rfl, Nat.le_of_ble_eq_true rfl⟩) hK hP hD hS hA (by simp only [List.cons_append, List.append_assoc, List.nil_append, List.append_nil]) (by simp only [List.cons_append, List.append_assoc, List.nil_append, List.append_nil]) rfl rfl rfl hl.1 rfl (Nat.le_of_ble_eq_true rfl) dX5_told_22 ⟨Nat.zero_le _, Nat.zero_le _⟩ (fun H locs hP hD hS => ?_)
    have hfn : fX5_told G w = (r3, G) := by
      subst er3
      subst er1
      exact if_neg c_2
    rw [hfn] at hQ
    exact hQ _ _ _ _ _ rfl hP hD hS dX5_told_25
  · refine lv_aload_n (pc := 10) hx hb dX5_told_10 rfl (lv_at hl 0 rfl) ?_
    refine lv_ldc (v := (-10000002)) (pc := 11) hx hb hown (hts _ mm_X5_told_1) dX5_told_11 ?_
    obtain ⟨r4, er4⟩ : ∃ z : Int32 × (GS), fX5_counted G (-10000002) = z := ⟨_, rfl⟩
    have hr4 := kX5_counted l E g0 b u0 u1 rr t G (-10000002)
    rw [er4] at hr4
    refine gcVi0 (pc := 13) (w1 := ((g0, .inr (5, [.ref (b 0), .ref u0, .ref (t 0), .int (r4.2.1 0), .int (r4.2.1 1), .int (r4.2.1 2)])) :: ((wB E b r4.2.2.1) ++ ((u0, .inr (3, [.ref u1, .int (nI r4.2.2.2.1), .int r4.2.2.2.2.1])) :: ((u1, .inl (eO E, 6, .inr (.inr (.inr (.inr (fun k => some (rr k 0))))))) :: ((wRg E rr r4.2.2.2.2.2.1) ++ (wT E t r4.2.2.2.2.2.2))))))) (As := [.int (-10000002)]) (rest := []) (q0 := 0) ⟨hx, hb, hml, hown, hts⟩ hr4 (cwV 1 hts gX5_told_X5_counted rfl rfl rfl qvX5_counted ⟨Nat.le_of_ble_eq_true rfl, Nat.le_of_ble_eq_true rfl⟩) hK hP hD hS hA rfl rfl rfl rfl rfl hl.1 rfl (Nat.le_of_ble_eq_true rfl) dX5_told_13 ⟨Nat.zero_le _, Nat.zero_le _⟩ (fun H locs hP hD hS => ?_)
    have hfn : fX5_told G w = r4 := by
      subst er4
      subst er1
      exact if_pos c_2
    rw [hfn] at hQ
    exact hQ _ _ _ _ _ rfl hP hD hS dX5_told_16

def fX5_volts (G : GS) (v : Int32) : Int32 × (GS) :=
  let r1 : Int32 := fX1_restVoltage G.2.1 v
  let r2 : Int32 × (GS) := fX5_counted G r1
  r2
abbrev rX5_volts : Room := { frames := 2, cells := 0, slots := 0, locals := 43 }
theorem mm_X5_volts_1 : Cond.fieldLink RX5 10 "GaugeBounds" "battery" "LGaugeBounds$Battery;" ∈ wsX5_volts := List.mem_of_getElem? (i := 1) rfl
theorem ii_X5_volts_X5 : ∀ w ∈ wsX50, w ∈ wsX5_volts := fun _ h => List.mem_cons_of_mem _ (List.mem_append_left _ (List.mem_append_left _ (List.mem_append_right _ (h))))
theorem qvX5_volts : yX5_volts.cls = RX5 ∧ yX5_volts.cls ≠ "java/lang/invoke/MethodHandle" ∧ yX5_volts.cls ≠ "java/lang/invoke/VarHandle" ∧ (parseMethodDescriptor yX5_volts.desc).map (fun d => d.parameters.length) = some 1 := by decide +kernel
set_option maxHeartbeats 4000000 in
set_option maxRecDepth 100000 in
theorem kX5_volts (l : Launch) (E : gEnv) (g0 : Nat) (b : Nat → Nat) (u0 u1 : Nat) (rr : Nat → Nat → Nat) (t : Nat → Nat) (G : GS) (v : Int32) : gMi l E yX5_volts wsX5_volts rX5_volts [.ref g0, .int v] (wG E g0 b u0 u1 rr t G) (fX5_volts G v).1 (wG E g0 b u0 u1 rr t ((fX5_volts G v).2)) := by
  refine gMi_of (cc := cX5_volts) (maxL := 2) (ret := (some .int)) (by decide) rfl rfl (Nat.le_of_ble_eq_true rfl) ?_
  intro p e s m args below meth c A Q ls hB hQ
  obtain ⟨hx, hb, hml, hown, hts, hK, hP, hD, hA, hS, hl⟩ := hB
  have hown : s.vm.findClass RX5 = some m.cls := hown
  have hP : va_P E.1 vwCl ((g0, .inr (5, [.ref (b 0), .ref u0, .ref (t 0), .int (G.1 0), .int (G.1 1), .int (G.1 2)])) :: ((wB E b G.2.1) ++ ((u0, .inr (3, [.ref u1, .int (nI G.2.2.1), .int G.2.2.2.1])) :: ((u1, .inl (eO E, 6, .inr (.inr (.inr (.inr (fun k => some (rr k 0))))))) :: ((wRg E rr G.2.2.2.2.1) ++ (wT E t G.2.2.2.2.2)))))) s.heap := hP
  have hD : va_D A ((g0, .inr (5, [.ref (b 0), .ref u0, .ref (t 0), .int (G.1 0), .int (G.1 1), .int (G.1 2)])) :: ((wB E b G.2.1) ++ ((u0, .inr (3, [.ref u1, .int (nI G.2.2.1), .int G.2.2.2.1])) :: ((u1, .inl (eO E, 6, .inr (.inr (.inr (.inr (fun k => some (rr k 0))))))) :: ((wRg E rr G.2.2.2.2.1) ++ (wT E t G.2.2.2.2.2)))))) := hD
  have hl : lv_has ls 2 [(0, .ref g0), (1, .int v)] := hl
  refine lv_aload_n (pc := 0) hx hb dX5_volts_0 rfl (lv_at hl 0 rfl) ?_
  refine lv_aload_n (pc := 1) hx hb dX5_volts_1 rfl (lv_at hl 0 rfl) ?_
  refine g_get (v := .ref (b 0)) (pc := 2) hx hb hts ii_X5_volts_X5 hown hK.1 hP 0 rfl rfl 0 (by decide) ⟨rfl, rfl, rfl⟩ mm_X5_volts_1 rfl dX5_volts_2 ?_
  refine lv_iload_n (pc := 5) hx hb dX5_volts_5 rfl (lv_at hl 1 rfl) ?_
  obtain ⟨r1, er1⟩ : ∃ z : Int32, fX1_restVoltage G.2.1 v = z := ⟨_, rfl⟩
  have hr1 := kX1_restVoltage l E b G.2.1 v
  rw [er1] at hr1
  refine gcVi (pc := 6) (w1 := ((g0, .inr (5, [.ref (b 0), .ref u0, .ref (t 0), .int (G.1 0), .int (G.1 1), .int (G.1 2)])) :: ((wB E b G.2.1) ++ ((u0, .inr (3, [.ref u1, .int (nI G.2.2.1), .int G.2.2.2.1])) :: ((u1, .inl (eO E, 6, .inr (.inr (.inr (.inr (fun k => some (rr k 0))))))) :: ((wRg E rr G.2.2.2.2.1) ++ (wT E t G.2.2.2.2.2))))))) (pre := [(g0, .inr (5, [.ref (b 0), .ref u0, .ref (t 0), .int (G.1 0), .int (G.1 1), .int (G.1 2)]))]) (post := ((u0, .inr (3, [.ref u1, .int (nI G.2.2.1), .int G.2.2.2.1])) :: ((u1, .inl (eO E, 6, .inr (.inr (.inr (.inr (fun k => some (rr k 0))))))) :: ((wRg E rr G.2.2.2.2.1) ++ (wT E t G.2.2.2.2.2))))) (As := [.int v]) (rest := [.ref g0]) (q0 := 0) ⟨hx, hb, hml, hown, hts⟩ hr1 (cwV 1 hts gX5_volts_X1_restVoltage rfl rfl rfl qvX1_restVoltage ⟨Nat.le_of_ble_eq_true rfl, Nat.le_of_ble_eq_true rfl⟩) hK hP hD hS hA (by simp only [List.cons_append, List.append_assoc, List.nil_append, List.append_nil]) (by simp only [List.cons_append, List.append_assoc, List.nil_append, List.append_nil]) rfl rfl rfl hl.1 rfl (Nat.le_of_ble_eq_true rfl) dX5_volts_6 ⟨Nat.zero_le _, Nat.zero_le _⟩ (fun H locs hP hD hS => ?_)
  obtain ⟨r2, er2⟩ : ∃ z : Int32 × (GS), fX5_counted G r1 = z := ⟨_, rfl⟩
  have hr2 := kX5_counted l E g0 b u0 u1 rr t G r1
  rw [er2] at hr2
  refine gcVi0 (pc := 9) (w1 := ((g0, .inr (5, [.ref (b 0), .ref u0, .ref (t 0), .int (r2.2.1 0), .int (r2.2.1 1), .int (r2.2.1 2)])) :: ((wB E b r2.2.2.1) ++ ((u0, .inr (3, [.ref u1, .int (nI r2.2.2.2.1), .int r2.2.2.2.2.1])) :: ((u1, .inl (eO E, 6, .inr (.inr (.inr (.inr (fun k => some (rr k 0))))))) :: ((wRg E rr r2.2.2.2.2.2.1) ++ (wT E t r2.2.2.2.2.2.2))))))) (As := [.int r1]) (rest := []) (q0 := 0) ⟨hx, hb, hml, hown, hts⟩ hr2 (cwV 1 hts gX5_volts_X5_counted rfl rfl rfl qvX5_counted ⟨Nat.le_of_ble_eq_true rfl, Nat.le_of_ble_eq_true rfl⟩) hK hP hD hS hA rfl rfl rfl rfl rfl hl.1 rfl (Nat.le_of_ble_eq_true rfl) dX5_volts_9 ⟨Nat.zero_le _, Nat.zero_le _⟩ (fun H locs hP hD hS => ?_)
  have hfn : fX5_volts G v = r2 := by
    subst er2
    subst er1
    exact rfl
  rw [hfn] at hQ
  exact hQ _ _ _ _ _ rfl hP hD hS dX5_volts_12

def fX5_inverse (G : GS) (v : Int32) (w : Int32) : Int32 × (GS) :=
  let r1 : Int32 := fX1_restBound G.2.1 v w
  let r2 : Int32 × (GS) := fX5_counted G r1
  r2
abbrev rX5_inverse : Room := { frames := 4, cells := 0, slots := 0, locals := 92 }
theorem mm_X5_inverse_1 : Cond.fieldLink RX5 10 "GaugeBounds" "battery" "LGaugeBounds$Battery;" ∈ wsX5_inverse := List.mem_of_getElem? (i := 1) rfl
theorem ii_X5_inverse_X5 : ∀ w ∈ wsX50, w ∈ wsX5_inverse := fun _ h => List.mem_cons_of_mem _ (List.mem_append_left _ (List.mem_append_left _ (List.mem_append_right _ (h))))
theorem qvX5_inverse : yX5_inverse.cls = RX5 ∧ yX5_inverse.cls ≠ "java/lang/invoke/MethodHandle" ∧ yX5_inverse.cls ≠ "java/lang/invoke/VarHandle" ∧ (parseMethodDescriptor yX5_inverse.desc).map (fun d => d.parameters.length) = some 2 := by decide +kernel
set_option maxHeartbeats 4000000 in
set_option maxRecDepth 100000 in
theorem kX5_inverse (l : Launch) (E : gEnv) (g0 : Nat) (b : Nat → Nat) (u0 u1 : Nat) (rr : Nat → Nat → Nat) (t : Nat → Nat) (G : GS) (v : Int32) (w : Int32) : gMi l E yX5_inverse wsX5_inverse rX5_inverse [.ref g0, .int v, .int w] (wG E g0 b u0 u1 rr t G) (fX5_inverse G v w).1 (wG E g0 b u0 u1 rr t ((fX5_inverse G v w).2)) := by
  refine gMi_of (cc := cX5_inverse) (maxL := 3) (ret := (some .int)) (by decide) rfl rfl (Nat.le_of_ble_eq_true rfl) ?_
  intro p e s m args below meth c A Q ls hB hQ
  obtain ⟨hx, hb, hml, hown, hts, hK, hP, hD, hA, hS, hl⟩ := hB
  have hown : s.vm.findClass RX5 = some m.cls := hown
  have hP : va_P E.1 vwCl ((g0, .inr (5, [.ref (b 0), .ref u0, .ref (t 0), .int (G.1 0), .int (G.1 1), .int (G.1 2)])) :: ((wB E b G.2.1) ++ ((u0, .inr (3, [.ref u1, .int (nI G.2.2.1), .int G.2.2.2.1])) :: ((u1, .inl (eO E, 6, .inr (.inr (.inr (.inr (fun k => some (rr k 0))))))) :: ((wRg E rr G.2.2.2.2.1) ++ (wT E t G.2.2.2.2.2)))))) s.heap := hP
  have hD : va_D A ((g0, .inr (5, [.ref (b 0), .ref u0, .ref (t 0), .int (G.1 0), .int (G.1 1), .int (G.1 2)])) :: ((wB E b G.2.1) ++ ((u0, .inr (3, [.ref u1, .int (nI G.2.2.1), .int G.2.2.2.1])) :: ((u1, .inl (eO E, 6, .inr (.inr (.inr (.inr (fun k => some (rr k 0))))))) :: ((wRg E rr G.2.2.2.2.1) ++ (wT E t G.2.2.2.2.2)))))) := hD
  have hl : lv_has ls 3 [(0, .ref g0), (1, .int v), (2, .int w)] := hl
  refine lv_aload_n (pc := 0) hx hb dX5_inverse_0 rfl (lv_at hl 0 rfl) ?_
  refine lv_aload_n (pc := 1) hx hb dX5_inverse_1 rfl (lv_at hl 0 rfl) ?_
  refine g_get (v := .ref (b 0)) (pc := 2) hx hb hts ii_X5_inverse_X5 hown hK.1 hP 0 rfl rfl 0 (by decide) ⟨rfl, rfl, rfl⟩ mm_X5_inverse_1 rfl dX5_inverse_2 ?_
  refine lv_iload_n (pc := 5) hx hb dX5_inverse_5 rfl (lv_at hl 1 rfl) ?_
  refine lv_iload_n (pc := 6) hx hb dX5_inverse_6 rfl (lv_at hl 2 rfl) ?_
  obtain ⟨r1, er1⟩ : ∃ z : Int32, fX1_restBound G.2.1 v w = z := ⟨_, rfl⟩
  have hr1 := kX1_restBound l E b G.2.1 v w
  rw [er1] at hr1
  refine gcVi (pc := 7) (w1 := ((g0, .inr (5, [.ref (b 0), .ref u0, .ref (t 0), .int (G.1 0), .int (G.1 1), .int (G.1 2)])) :: ((wB E b G.2.1) ++ ((u0, .inr (3, [.ref u1, .int (nI G.2.2.1), .int G.2.2.2.1])) :: ((u1, .inl (eO E, 6, .inr (.inr (.inr (.inr (fun k => some (rr k 0))))))) :: ((wRg E rr G.2.2.2.2.1) ++ (wT E t G.2.2.2.2.2))))))) (pre := [(g0, .inr (5, [.ref (b 0), .ref u0, .ref (t 0), .int (G.1 0), .int (G.1 1), .int (G.1 2)]))]) (post := ((u0, .inr (3, [.ref u1, .int (nI G.2.2.1), .int G.2.2.2.1])) :: ((u1, .inl (eO E, 6, .inr (.inr (.inr (.inr (fun k => some (rr k 0))))))) :: ((wRg E rr G.2.2.2.2.1) ++ (wT E t G.2.2.2.2.2))))) (As := [.int v, .int w]) (rest := [.ref g0]) (q0 := 0) ⟨hx, hb, hml, hown, hts⟩ hr1 (cwV 2 hts gX5_inverse_X1_restBound rfl rfl rfl qvX1_restBound ⟨Nat.le_of_ble_eq_true rfl, Nat.le_of_ble_eq_true rfl⟩) hK hP hD hS hA (by simp only [List.cons_append, List.append_assoc, List.nil_append, List.append_nil]) (by simp only [List.cons_append, List.append_assoc, List.nil_append, List.append_nil]) rfl rfl rfl hl.1 rfl (Nat.le_of_ble_eq_true rfl) dX5_inverse_7 ⟨Nat.zero_le _, Nat.zero_le _⟩ (fun H locs hP hD hS => ?_)
  obtain ⟨r2, er2⟩ : ∃ z : Int32 × (GS), fX5_counted G r1 = z := ⟨_, rfl⟩
  have hr2 := kX5_counted l E g0 b u0 u1 rr t G r1
  rw [er2] at hr2
  refine gcVi0 (pc := 10) (w1 := ((g0, .inr (5, [.ref (b 0), .ref u0, .ref (t 0), .int (r2.2.1 0), .int (r2.2.1 1), .int (r2.2.1 2)])) :: ((wB E b r2.2.2.1) ++ ((u0, .inr (3, [.ref u1, .int (nI r2.2.2.2.1), .int r2.2.2.2.2.1])) :: ((u1, .inl (eO E, 6, .inr (.inr (.inr (.inr (fun k => some (rr k 0))))))) :: ((wRg E rr r2.2.2.2.2.2.1) ++ (wT E t r2.2.2.2.2.2.2))))))) (As := [.int r1]) (rest := []) (q0 := 0) ⟨hx, hb, hml, hown, hts⟩ hr2 (cwV 1 hts gX5_inverse_X5_counted rfl rfl rfl qvX5_counted ⟨Nat.le_of_ble_eq_true rfl, Nat.le_of_ble_eq_true rfl⟩) hK hP hD hS hA rfl rfl rfl rfl rfl hl.1 rfl (Nat.le_of_ble_eq_true rfl) dX5_inverse_10 ⟨Nat.zero_le _, Nat.zero_le _⟩ (fun H locs hP hD hS => ?_)
  have hfn : fX5_inverse G v w = r2 := by
    subst er2
    subst er1
    exact rfl
  rw [hfn] at hQ
  exact hQ _ _ _ _ _ rfl hP hD hS dX5_inverse_13

def fX5_band (G : GS) (sg : Int32) (tn : Int32) (w : Int32) : Int32 × (GS) :=
  let r1 : Int32 := fX1_tellBand G.2.1 sg tn w
  let r2 : Int32 × (GS) := fX5_counted G r1
  r2
abbrev rX5_band : Room := { frames := 4, cells := 0, slots := 0, locals := 89 }
theorem mm_X5_band_1 : Cond.fieldLink RX5 10 "GaugeBounds" "battery" "LGaugeBounds$Battery;" ∈ wsX5_band := List.mem_of_getElem? (i := 1) rfl
theorem ii_X5_band_X5 : ∀ w ∈ wsX50, w ∈ wsX5_band := fun _ h => List.mem_cons_of_mem _ (List.mem_append_left _ (List.mem_append_left _ (List.mem_append_right _ (h))))
theorem qvX5_band : yX5_band.cls = RX5 ∧ yX5_band.cls ≠ "java/lang/invoke/MethodHandle" ∧ yX5_band.cls ≠ "java/lang/invoke/VarHandle" ∧ (parseMethodDescriptor yX5_band.desc).map (fun d => d.parameters.length) = some 3 := by decide +kernel
set_option maxHeartbeats 4000000 in
set_option maxRecDepth 100000 in
theorem kX5_band (l : Launch) (E : gEnv) (g0 : Nat) (b : Nat → Nat) (u0 u1 : Nat) (rr : Nat → Nat → Nat) (t : Nat → Nat) (G : GS) (sg : Int32) (tn : Int32) (w : Int32) : gMi l E yX5_band wsX5_band rX5_band [.ref g0, .int sg, .int tn, .int w] (wG E g0 b u0 u1 rr t G) (fX5_band G sg tn w).1 (wG E g0 b u0 u1 rr t ((fX5_band G sg tn w).2)) := by
  refine gMi_of (cc := cX5_band) (maxL := 4) (ret := (some .int)) (by decide) rfl rfl (Nat.le_of_ble_eq_true rfl) ?_
  intro p e s m args below meth c A Q ls hB hQ
  obtain ⟨hx, hb, hml, hown, hts, hK, hP, hD, hA, hS, hl⟩ := hB
  have hown : s.vm.findClass RX5 = some m.cls := hown
  have hP : va_P E.1 vwCl ((g0, .inr (5, [.ref (b 0), .ref u0, .ref (t 0), .int (G.1 0), .int (G.1 1), .int (G.1 2)])) :: ((wB E b G.2.1) ++ ((u0, .inr (3, [.ref u1, .int (nI G.2.2.1), .int G.2.2.2.1])) :: ((u1, .inl (eO E, 6, .inr (.inr (.inr (.inr (fun k => some (rr k 0))))))) :: ((wRg E rr G.2.2.2.2.1) ++ (wT E t G.2.2.2.2.2)))))) s.heap := hP
  have hD : va_D A ((g0, .inr (5, [.ref (b 0), .ref u0, .ref (t 0), .int (G.1 0), .int (G.1 1), .int (G.1 2)])) :: ((wB E b G.2.1) ++ ((u0, .inr (3, [.ref u1, .int (nI G.2.2.1), .int G.2.2.2.1])) :: ((u1, .inl (eO E, 6, .inr (.inr (.inr (.inr (fun k => some (rr k 0))))))) :: ((wRg E rr G.2.2.2.2.1) ++ (wT E t G.2.2.2.2.2)))))) := hD
  have hl : lv_has ls 4 [(0, .ref g0), (1, .int sg), (2, .int tn), (3, .int w)] := hl
  refine lv_aload_n (pc := 0) hx hb dX5_band_0 rfl (lv_at hl 0 rfl) ?_
  refine lv_aload_n (pc := 1) hx hb dX5_band_1 rfl (lv_at hl 0 rfl) ?_
  refine g_get (v := .ref (b 0)) (pc := 2) hx hb hts ii_X5_band_X5 hown hK.1 hP 0 rfl rfl 0 (by decide) ⟨rfl, rfl, rfl⟩ mm_X5_band_1 rfl dX5_band_2 ?_
  refine lv_iload_n (pc := 5) hx hb dX5_band_5 rfl (lv_at hl 1 rfl) ?_
  refine lv_iload_n (pc := 6) hx hb dX5_band_6 rfl (lv_at hl 2 rfl) ?_
  refine lv_iload_n (pc := 7) hx hb dX5_band_7 rfl (lv_at hl 3 rfl) ?_
  obtain ⟨r1, er1⟩ : ∃ z : Int32, fX1_tellBand G.2.1 sg tn w = z := ⟨_, rfl⟩
  have hr1 := kX1_tellBand l E b G.2.1 sg tn w
  rw [er1] at hr1
  refine gcVi (pc := 8) (w1 := ((g0, .inr (5, [.ref (b 0), .ref u0, .ref (t 0), .int (G.1 0), .int (G.1 1), .int (G.1 2)])) :: ((wB E b G.2.1) ++ ((u0, .inr (3, [.ref u1, .int (nI G.2.2.1), .int G.2.2.2.1])) :: ((u1, .inl (eO E, 6, .inr (.inr (.inr (.inr (fun k => some (rr k 0))))))) :: ((wRg E rr G.2.2.2.2.1) ++ (wT E t G.2.2.2.2.2))))))) (pre := [(g0, .inr (5, [.ref (b 0), .ref u0, .ref (t 0), .int (G.1 0), .int (G.1 1), .int (G.1 2)]))]) (post := ((u0, .inr (3, [.ref u1, .int (nI G.2.2.1), .int G.2.2.2.1])) :: ((u1, .inl (eO E, 6, .inr (.inr (.inr (.inr (fun k => some (rr k 0))))))) :: ((wRg E rr G.2.2.2.2.1) ++ (wT E t G.2.2.2.2.2))))) (As := [.int sg, .int tn, .int w]) (rest := [.ref g0]) (q0 := 0) ⟨hx, hb, hml, hown, hts⟩ hr1 (cwV 3 hts gX5_band_X1_tellBand rfl rfl rfl qvX1_tellBand ⟨Nat.le_of_ble_eq_true rfl, Nat.le_of_ble_eq_true rfl⟩) hK hP hD hS hA (by simp only [List.cons_append, List.append_assoc, List.nil_append, List.append_nil]) (by simp only [List.cons_append, List.append_assoc, List.nil_append, List.append_nil]) rfl rfl rfl hl.1 rfl (Nat.le_of_ble_eq_true rfl) dX5_band_8 ⟨Nat.zero_le _, Nat.zero_le _⟩ (fun H locs hP hD hS => ?_)
  obtain ⟨r2, er2⟩ : ∃ z : Int32 × (GS), fX5_counted G r1 = z := ⟨_, rfl⟩
  have hr2 := kX5_counted l E g0 b u0 u1 rr t G r1
  rw [er2] at hr2
  refine gcVi0 (pc := 11) (w1 := ((g0, .inr (5, [.ref (b 0), .ref u0, .ref (t 0), .int (r2.2.1 0), .int (r2.2.1 1), .int (r2.2.1 2)])) :: ((wB E b r2.2.2.1) ++ ((u0, .inr (3, [.ref u1, .int (nI r2.2.2.2.1), .int r2.2.2.2.2.1])) :: ((u1, .inl (eO E, 6, .inr (.inr (.inr (.inr (fun k => some (rr k 0))))))) :: ((wRg E rr r2.2.2.2.2.2.1) ++ (wT E t r2.2.2.2.2.2.2))))))) (As := [.int r1]) (rest := []) (q0 := 0) ⟨hx, hb, hml, hown, hts⟩ hr2 (cwV 1 hts gX5_band_X5_counted rfl rfl rfl qvX5_counted ⟨Nat.le_of_ble_eq_true rfl, Nat.le_of_ble_eq_true rfl⟩) hK hP hD hS hA rfl rfl rfl rfl rfl hl.1 rfl (Nat.le_of_ble_eq_true rfl) dX5_band_11 ⟨Nat.zero_le _, Nat.zero_le _⟩ (fun H locs hP hD hS => ?_)
  have hfn : fX5_band G sg tn w = r2 := by
    subst er2
    subst er1
    exact rfl
  rw [hfn] at hQ
  exact hQ _ _ _ _ _ rfl hP hD hS dX5_band_14

def fX5_bands (G : GS) : Int32 :=
  let r1 : Int32 := fX1_usedBands G.2.1
  r1
abbrev rX5_bands : Room := { frames := 2, cells := 0, slots := 0, locals := 42 }
theorem mm_X5_bands_1 : Cond.fieldLink RX5 10 "GaugeBounds" "battery" "LGaugeBounds$Battery;" ∈ wsX5_bands := List.mem_of_getElem? (i := 1) rfl
theorem ii_X5_bands_X5 : ∀ w ∈ wsX50, w ∈ wsX5_bands := fun _ h => List.mem_cons_of_mem _ (List.mem_append_left _ (List.mem_append_left _ (List.mem_append_right _ (h))))
theorem qvX5_bands : yX5_bands.cls = RX5 ∧ yX5_bands.cls ≠ "java/lang/invoke/MethodHandle" ∧ yX5_bands.cls ≠ "java/lang/invoke/VarHandle" ∧ (parseMethodDescriptor yX5_bands.desc).map (fun d => d.parameters.length) = some 0 := by decide +kernel
set_option maxHeartbeats 4000000 in
set_option maxRecDepth 100000 in
theorem kX5_bands (l : Launch) (E : gEnv) (g0 : Nat) (b : Nat → Nat) (u0 u1 : Nat) (rr : Nat → Nat → Nat) (t : Nat → Nat) (G : GS) : gMi l E yX5_bands wsX5_bands rX5_bands [.ref g0] (wG E g0 b u0 u1 rr t G) (fX5_bands G) (wG E g0 b u0 u1 rr t G) := by
  refine gMi_of (cc := cX5_bands) (maxL := 1) (ret := (some .int)) (by decide) rfl rfl (Nat.le_of_ble_eq_true rfl) ?_
  intro p e s m args below meth c A Q ls hB hQ
  obtain ⟨hx, hb, hml, hown, hts, hK, hP, hD, hA, hS, hl⟩ := hB
  have hown : s.vm.findClass RX5 = some m.cls := hown
  have hP : va_P E.1 vwCl ((g0, .inr (5, [.ref (b 0), .ref u0, .ref (t 0), .int (G.1 0), .int (G.1 1), .int (G.1 2)])) :: ((wB E b G.2.1) ++ ((u0, .inr (3, [.ref u1, .int (nI G.2.2.1), .int G.2.2.2.1])) :: ((u1, .inl (eO E, 6, .inr (.inr (.inr (.inr (fun k => some (rr k 0))))))) :: ((wRg E rr G.2.2.2.2.1) ++ (wT E t G.2.2.2.2.2)))))) s.heap := hP
  have hD : va_D A ((g0, .inr (5, [.ref (b 0), .ref u0, .ref (t 0), .int (G.1 0), .int (G.1 1), .int (G.1 2)])) :: ((wB E b G.2.1) ++ ((u0, .inr (3, [.ref u1, .int (nI G.2.2.1), .int G.2.2.2.1])) :: ((u1, .inl (eO E, 6, .inr (.inr (.inr (.inr (fun k => some (rr k 0))))))) :: ((wRg E rr G.2.2.2.2.1) ++ (wT E t G.2.2.2.2.2)))))) := hD
  have hl : lv_has ls 1 [(0, .ref g0)] := hl
  refine lv_aload_n (pc := 0) hx hb dX5_bands_0 rfl (lv_at hl 0 rfl) ?_
  refine g_get (v := .ref (b 0)) (pc := 1) hx hb hts ii_X5_bands_X5 hown hK.1 hP 0 rfl rfl 0 (by decide) ⟨rfl, rfl, rfl⟩ mm_X5_bands_1 rfl dX5_bands_1 ?_
  obtain ⟨r1, er1⟩ : ∃ z : Int32, fX1_usedBands G.2.1 = z := ⟨_, rfl⟩
  have hr1 := kX1_usedBands l E b G.2.1
  rw [er1] at hr1
  refine gcVi (pc := 4) (w1 := ((g0, .inr (5, [.ref (b 0), .ref u0, .ref (t 0), .int (G.1 0), .int (G.1 1), .int (G.1 2)])) :: ((wB E b G.2.1) ++ ((u0, .inr (3, [.ref u1, .int (nI G.2.2.1), .int G.2.2.2.1])) :: ((u1, .inl (eO E, 6, .inr (.inr (.inr (.inr (fun k => some (rr k 0))))))) :: ((wRg E rr G.2.2.2.2.1) ++ (wT E t G.2.2.2.2.2))))))) (pre := [(g0, .inr (5, [.ref (b 0), .ref u0, .ref (t 0), .int (G.1 0), .int (G.1 1), .int (G.1 2)]))]) (post := ((u0, .inr (3, [.ref u1, .int (nI G.2.2.1), .int G.2.2.2.1])) :: ((u1, .inl (eO E, 6, .inr (.inr (.inr (.inr (fun k => some (rr k 0))))))) :: ((wRg E rr G.2.2.2.2.1) ++ (wT E t G.2.2.2.2.2))))) (As := []) (rest := []) (q0 := 0) ⟨hx, hb, hml, hown, hts⟩ hr1 (cwV 0 hts gX5_bands_X1_usedBands rfl rfl rfl qvX1_usedBands ⟨Nat.le_of_ble_eq_true rfl, Nat.le_of_ble_eq_true rfl⟩) hK hP hD hS hA (by simp only [List.cons_append, List.append_assoc, List.nil_append, List.append_nil]) (by simp only [List.cons_append, List.append_assoc, List.nil_append, List.append_nil]) rfl rfl rfl hl.1 rfl (Nat.le_of_ble_eq_true rfl) dX5_bands_4 ⟨Nat.zero_le _, Nat.zero_le _⟩ (fun H locs hP hD hS => ?_)
  have hfn : fX5_bands G = r1 := by
    subst er1
    exact rfl
  rw [hfn] at hQ
  exact hQ _ _ _ _ _ rfl hP hD hS dX5_bands_7

def fX5_lasts (G : GS) (i : Int32) (w : Int32) : Int32 × (GS) :=
  let r1 : Int32 := fX1_lasting G.2.1 i w
  let r2 : Int32 × (GS) := fX5_counted G r1
  r2
abbrev rX5_lasts : Room := { frames := 2, cells := 0, slots := 0, locals := 44 }
theorem mm_X5_lasts_1 : Cond.fieldLink RX5 10 "GaugeBounds" "battery" "LGaugeBounds$Battery;" ∈ wsX5_lasts := List.mem_of_getElem? (i := 1) rfl
theorem ii_X5_lasts_X5 : ∀ w ∈ wsX50, w ∈ wsX5_lasts := fun _ h => List.mem_cons_of_mem _ (List.mem_append_left _ (List.mem_append_right _ (h)))
theorem qvX5_lasts : yX5_lasts.cls = RX5 ∧ yX5_lasts.cls ≠ "java/lang/invoke/MethodHandle" ∧ yX5_lasts.cls ≠ "java/lang/invoke/VarHandle" ∧ (parseMethodDescriptor yX5_lasts.desc).map (fun d => d.parameters.length) = some 2 := by decide +kernel
set_option maxHeartbeats 4000000 in
set_option maxRecDepth 100000 in
theorem kX5_lasts (l : Launch) (E : gEnv) (g0 : Nat) (b : Nat → Nat) (u0 u1 : Nat) (rr : Nat → Nat → Nat) (t : Nat → Nat) (G : GS) (i : Int32) (w : Int32) (ho : 0 ≤ (G.2.1.1 4).toInt ∧ (G.2.1.1 4).toInt ≤ 9) : gMi l E yX5_lasts wsX5_lasts rX5_lasts [.ref g0, .int i, .int w] (wG E g0 b u0 u1 rr t G) (fX5_lasts G i w).1 (wG E g0 b u0 u1 rr t ((fX5_lasts G i w).2)) := by
  refine gMi_of (cc := cX5_lasts) (maxL := 3) (ret := (some .int)) (by decide) rfl rfl (Nat.le_of_ble_eq_true rfl) ?_
  intro p e s m args below meth c A Q ls hB hQ
  obtain ⟨hx, hb, hml, hown, hts, hK, hP, hD, hA, hS, hl⟩ := hB
  have hown : s.vm.findClass RX5 = some m.cls := hown
  have hP : va_P E.1 vwCl ((g0, .inr (5, [.ref (b 0), .ref u0, .ref (t 0), .int (G.1 0), .int (G.1 1), .int (G.1 2)])) :: ((wB E b G.2.1) ++ ((u0, .inr (3, [.ref u1, .int (nI G.2.2.1), .int G.2.2.2.1])) :: ((u1, .inl (eO E, 6, .inr (.inr (.inr (.inr (fun k => some (rr k 0))))))) :: ((wRg E rr G.2.2.2.2.1) ++ (wT E t G.2.2.2.2.2)))))) s.heap := hP
  have hD : va_D A ((g0, .inr (5, [.ref (b 0), .ref u0, .ref (t 0), .int (G.1 0), .int (G.1 1), .int (G.1 2)])) :: ((wB E b G.2.1) ++ ((u0, .inr (3, [.ref u1, .int (nI G.2.2.1), .int G.2.2.2.1])) :: ((u1, .inl (eO E, 6, .inr (.inr (.inr (.inr (fun k => some (rr k 0))))))) :: ((wRg E rr G.2.2.2.2.1) ++ (wT E t G.2.2.2.2.2)))))) := hD
  have hl : lv_has ls 3 [(0, .ref g0), (1, .int i), (2, .int w)] := hl
  refine lv_aload_n (pc := 0) hx hb dX5_lasts_0 rfl (lv_at hl 0 rfl) ?_
  refine lv_aload_n (pc := 1) hx hb dX5_lasts_1 rfl (lv_at hl 0 rfl) ?_
  refine g_get (v := .ref (b 0)) (pc := 2) hx hb hts ii_X5_lasts_X5 hown hK.1 hP 0 rfl rfl 0 (by decide) ⟨rfl, rfl, rfl⟩ mm_X5_lasts_1 rfl dX5_lasts_2 ?_
  refine lv_iload_n (pc := 5) hx hb dX5_lasts_5 rfl (lv_at hl 1 rfl) ?_
  refine lv_iload_n (pc := 6) hx hb dX5_lasts_6 rfl (lv_at hl 2 rfl) ?_
  obtain ⟨r1, er1⟩ : ∃ z : Int32, fX1_lasting G.2.1 i w = z := ⟨_, rfl⟩
  have hr1 := kX1_lasting l E b G.2.1 i w ho
  rw [er1] at hr1
  refine gcVi (pc := 7) (w1 := ((g0, .inr (5, [.ref (b 0), .ref u0, .ref (t 0), .int (G.1 0), .int (G.1 1), .int (G.1 2)])) :: ((wB E b G.2.1) ++ ((u0, .inr (3, [.ref u1, .int (nI G.2.2.1), .int G.2.2.2.1])) :: ((u1, .inl (eO E, 6, .inr (.inr (.inr (.inr (fun k => some (rr k 0))))))) :: ((wRg E rr G.2.2.2.2.1) ++ (wT E t G.2.2.2.2.2))))))) (pre := [(g0, .inr (5, [.ref (b 0), .ref u0, .ref (t 0), .int (G.1 0), .int (G.1 1), .int (G.1 2)]))]) (post := ((u0, .inr (3, [.ref u1, .int (nI G.2.2.1), .int G.2.2.2.1])) :: ((u1, .inl (eO E, 6, .inr (.inr (.inr (.inr (fun k => some (rr k 0))))))) :: ((wRg E rr G.2.2.2.2.1) ++ (wT E t G.2.2.2.2.2))))) (As := [.int i, .int w]) (rest := [.ref g0]) (q0 := 0) ⟨hx, hb, hml, hown, hts⟩ hr1 (cwV 2 hts gX5_lasts_X1_lasting rfl rfl rfl qvX1_lasting ⟨Nat.le_of_ble_eq_true rfl, Nat.le_of_ble_eq_true rfl⟩) hK hP hD hS hA (by simp only [List.cons_append, List.append_assoc, List.nil_append, List.append_nil]) (by simp only [List.cons_append, List.append_assoc, List.nil_append, List.append_nil]) rfl rfl rfl hl.1 rfl (Nat.le_of_ble_eq_true rfl) dX5_lasts_7 ⟨Nat.zero_le _, Nat.zero_le _⟩ (fun H locs hP hD hS => ?_)
  obtain ⟨r2, er2⟩ : ∃ z : Int32 × (GS), fX5_counted G r1 = z := ⟨_, rfl⟩
  have hr2 := kX5_counted l E g0 b u0 u1 rr t G r1
  rw [er2] at hr2
  refine gcVi0 (pc := 10) (w1 := ((g0, .inr (5, [.ref (b 0), .ref u0, .ref (t 0), .int (r2.2.1 0), .int (r2.2.1 1), .int (r2.2.1 2)])) :: ((wB E b r2.2.2.1) ++ ((u0, .inr (3, [.ref u1, .int (nI r2.2.2.2.1), .int r2.2.2.2.2.1])) :: ((u1, .inl (eO E, 6, .inr (.inr (.inr (.inr (fun k => some (rr k 0))))))) :: ((wRg E rr r2.2.2.2.2.2.1) ++ (wT E t r2.2.2.2.2.2.2))))))) (As := [.int r1]) (rest := []) (q0 := 0) ⟨hx, hb, hml, hown, hts⟩ hr2 (cwV 1 hts gX5_lasts_X5_counted rfl rfl rfl qvX5_counted ⟨Nat.le_of_ble_eq_true rfl, Nat.le_of_ble_eq_true rfl⟩) hK hP hD hS hA rfl rfl rfl rfl rfl hl.1 rfl (Nat.le_of_ble_eq_true rfl) dX5_lasts_10 ⟨Nat.zero_le _, Nat.zero_le _⟩ (fun H locs hP hD hS => ?_)
  have hfn : fX5_lasts G i w = r2 := by
    subst er2
    subst er1
    exact rfl
  rw [hfn] at hQ
  exact hQ _ _ _ _ _ rfl hP hD hS dX5_lasts_13

def fX5_under (G : GS) (i : Int32) : Int32 × (GS) :=
  let r1 : Int32 := fX1_loadedVoltage G.2.1 i
  let r2 : Int32 × (GS) := fX5_counted G r1
  r2
abbrev rX5_under : Room := { frames := 4, cells := 0, slots := 0, locals := 89 }
theorem mm_X5_under_1 : Cond.fieldLink RX5 10 "GaugeBounds" "battery" "LGaugeBounds$Battery;" ∈ wsX5_under := List.mem_of_getElem? (i := 1) rfl
theorem ii_X5_under_X5 : ∀ w ∈ wsX50, w ∈ wsX5_under := fun _ h => List.mem_cons_of_mem _ (List.mem_append_left _ (List.mem_append_left _ (List.mem_append_left _ (List.mem_append_right _ (h)))))
theorem qvX5_under : yX5_under.cls = RX5 ∧ yX5_under.cls ≠ "java/lang/invoke/MethodHandle" ∧ yX5_under.cls ≠ "java/lang/invoke/VarHandle" ∧ (parseMethodDescriptor yX5_under.desc).map (fun d => d.parameters.length) = some 1 := by decide +kernel
set_option maxHeartbeats 4000000 in
set_option maxRecDepth 100000 in
theorem kX5_under (l : Launch) (E : gEnv) (g0 : Nat) (b : Nat → Nat) (u0 u1 : Nat) (rr : Nat → Nat → Nat) (t : Nat → Nat) (G : GS) (i : Int32) : gMi l E yX5_under wsX5_under rX5_under [.ref g0, .int i] (wG E g0 b u0 u1 rr t G) (fX5_under G i).1 (wG E g0 b u0 u1 rr t ((fX5_under G i).2)) := by
  refine gMi_of (cc := cX5_under) (maxL := 2) (ret := (some .int)) (by decide) rfl rfl (Nat.le_of_ble_eq_true rfl) ?_
  intro p e s m args below meth c A Q ls hB hQ
  obtain ⟨hx, hb, hml, hown, hts, hK, hP, hD, hA, hS, hl⟩ := hB
  have hown : s.vm.findClass RX5 = some m.cls := hown
  have hP : va_P E.1 vwCl ((g0, .inr (5, [.ref (b 0), .ref u0, .ref (t 0), .int (G.1 0), .int (G.1 1), .int (G.1 2)])) :: ((wB E b G.2.1) ++ ((u0, .inr (3, [.ref u1, .int (nI G.2.2.1), .int G.2.2.2.1])) :: ((u1, .inl (eO E, 6, .inr (.inr (.inr (.inr (fun k => some (rr k 0))))))) :: ((wRg E rr G.2.2.2.2.1) ++ (wT E t G.2.2.2.2.2)))))) s.heap := hP
  have hD : va_D A ((g0, .inr (5, [.ref (b 0), .ref u0, .ref (t 0), .int (G.1 0), .int (G.1 1), .int (G.1 2)])) :: ((wB E b G.2.1) ++ ((u0, .inr (3, [.ref u1, .int (nI G.2.2.1), .int G.2.2.2.1])) :: ((u1, .inl (eO E, 6, .inr (.inr (.inr (.inr (fun k => some (rr k 0))))))) :: ((wRg E rr G.2.2.2.2.1) ++ (wT E t G.2.2.2.2.2)))))) := hD
  have hl : lv_has ls 2 [(0, .ref g0), (1, .int i)] := hl
  refine lv_aload_n (pc := 0) hx hb dX5_under_0 rfl (lv_at hl 0 rfl) ?_
  refine lv_aload_n (pc := 1) hx hb dX5_under_1 rfl (lv_at hl 0 rfl) ?_
  refine g_get (v := .ref (b 0)) (pc := 2) hx hb hts ii_X5_under_X5 hown hK.1 hP 0 rfl rfl 0 (by decide) ⟨rfl, rfl, rfl⟩ mm_X5_under_1 rfl dX5_under_2 ?_
  refine lv_iload_n (pc := 5) hx hb dX5_under_5 rfl (lv_at hl 1 rfl) ?_
  obtain ⟨r1, er1⟩ : ∃ z : Int32, fX1_loadedVoltage G.2.1 i = z := ⟨_, rfl⟩
  have hr1 := kX1_loadedVoltage l E b G.2.1 i
  rw [er1] at hr1
  refine gcVi (pc := 6) (w1 := ((g0, .inr (5, [.ref (b 0), .ref u0, .ref (t 0), .int (G.1 0), .int (G.1 1), .int (G.1 2)])) :: ((wB E b G.2.1) ++ ((u0, .inr (3, [.ref u1, .int (nI G.2.2.1), .int G.2.2.2.1])) :: ((u1, .inl (eO E, 6, .inr (.inr (.inr (.inr (fun k => some (rr k 0))))))) :: ((wRg E rr G.2.2.2.2.1) ++ (wT E t G.2.2.2.2.2))))))) (pre := [(g0, .inr (5, [.ref (b 0), .ref u0, .ref (t 0), .int (G.1 0), .int (G.1 1), .int (G.1 2)]))]) (post := ((u0, .inr (3, [.ref u1, .int (nI G.2.2.1), .int G.2.2.2.1])) :: ((u1, .inl (eO E, 6, .inr (.inr (.inr (.inr (fun k => some (rr k 0))))))) :: ((wRg E rr G.2.2.2.2.1) ++ (wT E t G.2.2.2.2.2))))) (As := [.int i]) (rest := [.ref g0]) (q0 := 0) ⟨hx, hb, hml, hown, hts⟩ hr1 (cwV 1 hts gX5_under_X1_loadedVoltage rfl rfl rfl qvX1_loadedVoltage ⟨Nat.le_of_ble_eq_true rfl, Nat.le_of_ble_eq_true rfl⟩) hK hP hD hS hA (by simp only [List.cons_append, List.append_assoc, List.nil_append, List.append_nil]) (by simp only [List.cons_append, List.append_assoc, List.nil_append, List.append_nil]) rfl rfl rfl hl.1 rfl (Nat.le_of_ble_eq_true rfl) dX5_under_6 ⟨Nat.zero_le _, Nat.zero_le _⟩ (fun H locs hP hD hS => ?_)
  obtain ⟨r2, er2⟩ : ∃ z : Int32 × (GS), fX5_counted G r1 = z := ⟨_, rfl⟩
  have hr2 := kX5_counted l E g0 b u0 u1 rr t G r1
  rw [er2] at hr2
  refine gcVi0 (pc := 9) (w1 := ((g0, .inr (5, [.ref (b 0), .ref u0, .ref (t 0), .int (r2.2.1 0), .int (r2.2.1 1), .int (r2.2.1 2)])) :: ((wB E b r2.2.2.1) ++ ((u0, .inr (3, [.ref u1, .int (nI r2.2.2.2.1), .int r2.2.2.2.2.1])) :: ((u1, .inl (eO E, 6, .inr (.inr (.inr (.inr (fun k => some (rr k 0))))))) :: ((wRg E rr r2.2.2.2.2.2.1) ++ (wT E t r2.2.2.2.2.2.2))))))) (As := [.int r1]) (rest := []) (q0 := 0) ⟨hx, hb, hml, hown, hts⟩ hr2 (cwV 1 hts gX5_under_X5_counted rfl rfl rfl qvX5_counted ⟨Nat.le_of_ble_eq_true rfl, Nat.le_of_ble_eq_true rfl⟩) hK hP hD hS hA rfl rfl rfl rfl rfl hl.1 rfl (Nat.le_of_ble_eq_true rfl) dX5_under_9 ⟨Nat.zero_le _, Nat.zero_le _⟩ (fun H locs hP hD hS => ?_)
  have hfn : fX5_under G i = r2 := by
    subst er2
    subst er1
    exact rfl
  rw [hfn] at hQ
  exact hQ _ _ _ _ _ rfl hP hD hS dX5_under_12

def fX5_setting (G : GS) (w : Int32) : Int32 × (GS) :=
  let r1 : Int32 := fX1_tellSetting G.2.1 w
  let r2 : Int32 × (GS) := fX5_counted G r1
  r2
abbrev rX5_setting : Room := { frames := 3, cells := 0, slots := 0, locals := 64 }
theorem mm_X5_setting_1 : Cond.fieldLink RX5 10 "GaugeBounds" "battery" "LGaugeBounds$Battery;" ∈ wsX5_setting := List.mem_of_getElem? (i := 1) rfl
theorem ii_X5_setting_X5 : ∀ w ∈ wsX50, w ∈ wsX5_setting := fun _ h => List.mem_cons_of_mem _ (List.mem_append_left _ (List.mem_append_left _ (List.mem_append_right _ (h))))
theorem qvX5_setting : yX5_setting.cls = RX5 ∧ yX5_setting.cls ≠ "java/lang/invoke/MethodHandle" ∧ yX5_setting.cls ≠ "java/lang/invoke/VarHandle" ∧ (parseMethodDescriptor yX5_setting.desc).map (fun d => d.parameters.length) = some 1 := by decide +kernel
set_option maxHeartbeats 4000000 in
set_option maxRecDepth 100000 in
theorem kX5_setting (l : Launch) (E : gEnv) (g0 : Nat) (b : Nat → Nat) (u0 u1 : Nat) (rr : Nat → Nat → Nat) (t : Nat → Nat) (G : GS) (w : Int32) : gMi l E yX5_setting wsX5_setting rX5_setting [.ref g0, .int w] (wG E g0 b u0 u1 rr t G) (fX5_setting G w).1 (wG E g0 b u0 u1 rr t ((fX5_setting G w).2)) := by
  refine gMi_of (cc := cX5_setting) (maxL := 2) (ret := (some .int)) (by decide) rfl rfl (Nat.le_of_ble_eq_true rfl) ?_
  intro p e s m args below meth c A Q ls hB hQ
  obtain ⟨hx, hb, hml, hown, hts, hK, hP, hD, hA, hS, hl⟩ := hB
  have hown : s.vm.findClass RX5 = some m.cls := hown
  have hP : va_P E.1 vwCl ((g0, .inr (5, [.ref (b 0), .ref u0, .ref (t 0), .int (G.1 0), .int (G.1 1), .int (G.1 2)])) :: ((wB E b G.2.1) ++ ((u0, .inr (3, [.ref u1, .int (nI G.2.2.1), .int G.2.2.2.1])) :: ((u1, .inl (eO E, 6, .inr (.inr (.inr (.inr (fun k => some (rr k 0))))))) :: ((wRg E rr G.2.2.2.2.1) ++ (wT E t G.2.2.2.2.2)))))) s.heap := hP
  have hD : va_D A ((g0, .inr (5, [.ref (b 0), .ref u0, .ref (t 0), .int (G.1 0), .int (G.1 1), .int (G.1 2)])) :: ((wB E b G.2.1) ++ ((u0, .inr (3, [.ref u1, .int (nI G.2.2.1), .int G.2.2.2.1])) :: ((u1, .inl (eO E, 6, .inr (.inr (.inr (.inr (fun k => some (rr k 0))))))) :: ((wRg E rr G.2.2.2.2.1) ++ (wT E t G.2.2.2.2.2)))))) := hD
  have hl : lv_has ls 2 [(0, .ref g0), (1, .int w)] := hl
  refine lv_aload_n (pc := 0) hx hb dX5_setting_0 rfl (lv_at hl 0 rfl) ?_
  refine lv_aload_n (pc := 1) hx hb dX5_setting_1 rfl (lv_at hl 0 rfl) ?_
  refine g_get (v := .ref (b 0)) (pc := 2) hx hb hts ii_X5_setting_X5 hown hK.1 hP 0 rfl rfl 0 (by decide) ⟨rfl, rfl, rfl⟩ mm_X5_setting_1 rfl dX5_setting_2 ?_
  refine lv_iload_n (pc := 5) hx hb dX5_setting_5 rfl (lv_at hl 1 rfl) ?_
  obtain ⟨r1, er1⟩ : ∃ z : Int32, fX1_tellSetting G.2.1 w = z := ⟨_, rfl⟩
  have hr1 := kX1_tellSetting l E b G.2.1 w
  rw [er1] at hr1
  refine gcVi (pc := 6) (w1 := ((g0, .inr (5, [.ref (b 0), .ref u0, .ref (t 0), .int (G.1 0), .int (G.1 1), .int (G.1 2)])) :: ((wB E b G.2.1) ++ ((u0, .inr (3, [.ref u1, .int (nI G.2.2.1), .int G.2.2.2.1])) :: ((u1, .inl (eO E, 6, .inr (.inr (.inr (.inr (fun k => some (rr k 0))))))) :: ((wRg E rr G.2.2.2.2.1) ++ (wT E t G.2.2.2.2.2))))))) (pre := [(g0, .inr (5, [.ref (b 0), .ref u0, .ref (t 0), .int (G.1 0), .int (G.1 1), .int (G.1 2)]))]) (post := ((u0, .inr (3, [.ref u1, .int (nI G.2.2.1), .int G.2.2.2.1])) :: ((u1, .inl (eO E, 6, .inr (.inr (.inr (.inr (fun k => some (rr k 0))))))) :: ((wRg E rr G.2.2.2.2.1) ++ (wT E t G.2.2.2.2.2))))) (As := [.int w]) (rest := [.ref g0]) (q0 := 0) ⟨hx, hb, hml, hown, hts⟩ hr1 (cwV 1 hts gX5_setting_X1_tellSetting rfl rfl rfl qvX1_tellSetting ⟨Nat.le_of_ble_eq_true rfl, Nat.le_of_ble_eq_true rfl⟩) hK hP hD hS hA (by simp only [List.cons_append, List.append_assoc, List.nil_append, List.append_nil]) (by simp only [List.cons_append, List.append_assoc, List.nil_append, List.append_nil]) rfl rfl rfl hl.1 rfl (Nat.le_of_ble_eq_true rfl) dX5_setting_6 ⟨Nat.zero_le _, Nat.zero_le _⟩ (fun H locs hP hD hS => ?_)
  obtain ⟨r2, er2⟩ : ∃ z : Int32 × (GS), fX5_counted G r1 = z := ⟨_, rfl⟩
  have hr2 := kX5_counted l E g0 b u0 u1 rr t G r1
  rw [er2] at hr2
  refine gcVi0 (pc := 9) (w1 := ((g0, .inr (5, [.ref (b 0), .ref u0, .ref (t 0), .int (r2.2.1 0), .int (r2.2.1 1), .int (r2.2.1 2)])) :: ((wB E b r2.2.2.1) ++ ((u0, .inr (3, [.ref u1, .int (nI r2.2.2.2.1), .int r2.2.2.2.2.1])) :: ((u1, .inl (eO E, 6, .inr (.inr (.inr (.inr (fun k => some (rr k 0))))))) :: ((wRg E rr r2.2.2.2.2.2.1) ++ (wT E t r2.2.2.2.2.2.2))))))) (As := [.int r1]) (rest := []) (q0 := 0) ⟨hx, hb, hml, hown, hts⟩ hr2 (cwV 1 hts gX5_setting_X5_counted rfl rfl rfl qvX5_counted ⟨Nat.le_of_ble_eq_true rfl, Nat.le_of_ble_eq_true rfl⟩) hK hP hD hS hA rfl rfl rfl rfl rfl hl.1 rfl (Nat.le_of_ble_eq_true rfl) dX5_setting_9 ⟨Nat.zero_le _, Nat.zero_le _⟩ (fun H locs hP hD hS => ?_)
  have hfn : fX5_setting G w = r2 := by
    subst er2
    subst er1
    exact rfl
  rw [hfn] at hQ
  exact hQ _ _ _ _ _ rfl hP hD hS dX5_setting_12

def fX5_type (G : GS) (v : Int32) : Int32 × (GS) :=
  let r1 : Int32 × (Txt) := fX4_append G.2.2.2.2.2 v
  let r2 : Int32 × (GS) := fX5_counted (G.1, G.2.1, G.2.2.1, G.2.2.2.1, G.2.2.2.2.1, r1.2) r1.1
  r2
abbrev rX5_type : Room := { frames := 2, cells := 0, slots := 0, locals := 43 }
theorem mm_X5_type_1 : Cond.fieldLink RX5 26 "GaugeBounds" "text" "LGaugeBounds$Text;" ∈ wsX5_type := List.mem_of_getElem? (i := 1) rfl
theorem ii_X5_type_X5 : ∀ w ∈ wsX50, w ∈ wsX5_type := fun _ h => List.mem_cons_of_mem _ (List.mem_append_left _ (List.mem_append_right _ (h)))
theorem qvX5_type : yX5_type.cls = RX5 ∧ yX5_type.cls ≠ "java/lang/invoke/MethodHandle" ∧ yX5_type.cls ≠ "java/lang/invoke/VarHandle" ∧ (parseMethodDescriptor yX5_type.desc).map (fun d => d.parameters.length) = some 1 := by decide +kernel
set_option maxHeartbeats 4000000 in
set_option maxRecDepth 100000 in
theorem kX5_type (l : Launch) (E : gEnv) (g0 : Nat) (b : Nat → Nat) (u0 u1 : Nat) (rr : Nat → Nat → Nat) (t : Nat → Nat) (G : GS) (v : Int32) (hb0 : 0 ≤ (G.2.2.2.2.2.1 0).toInt ∧ (G.2.2.2.2.2.1 0).toInt ≤ 120) : gMi l E yX5_type wsX5_type rX5_type [.ref g0, .int v] (wG E g0 b u0 u1 rr t G) (fX5_type G v).1 (wG E g0 b u0 u1 rr t ((fX5_type G v).2)) := by
  refine gMi_of (cc := cX5_type) (maxL := 2) (ret := (some .int)) (by decide) rfl rfl (Nat.le_of_ble_eq_true rfl) ?_
  intro p e s m args below meth c A Q ls hB hQ
  obtain ⟨hx, hb, hml, hown, hts, hK, hP, hD, hA, hS, hl⟩ := hB
  have hown : s.vm.findClass RX5 = some m.cls := hown
  have hP : va_P E.1 vwCl ((g0, .inr (5, [.ref (b 0), .ref u0, .ref (t 0), .int (G.1 0), .int (G.1 1), .int (G.1 2)])) :: ((wB E b G.2.1) ++ ((u0, .inr (3, [.ref u1, .int (nI G.2.2.1), .int G.2.2.2.1])) :: ((u1, .inl (eO E, 6, .inr (.inr (.inr (.inr (fun k => some (rr k 0))))))) :: ((wRg E rr G.2.2.2.2.1) ++ (wT E t G.2.2.2.2.2)))))) s.heap := hP
  have hD : va_D A ((g0, .inr (5, [.ref (b 0), .ref u0, .ref (t 0), .int (G.1 0), .int (G.1 1), .int (G.1 2)])) :: ((wB E b G.2.1) ++ ((u0, .inr (3, [.ref u1, .int (nI G.2.2.1), .int G.2.2.2.1])) :: ((u1, .inl (eO E, 6, .inr (.inr (.inr (.inr (fun k => some (rr k 0))))))) :: ((wRg E rr G.2.2.2.2.1) ++ (wT E t G.2.2.2.2.2)))))) := hD
  have hl : lv_has ls 2 [(0, .ref g0), (1, .int v)] := hl
  refine lv_aload_n (pc := 0) hx hb dX5_type_0 rfl (lv_at hl 0 rfl) ?_
  refine lv_aload_n (pc := 1) hx hb dX5_type_1 rfl (lv_at hl 0 rfl) ?_
  refine g_get (v := .ref (t 0)) (pc := 2) hx hb hts ii_X5_type_X5 hown hK.1 hP 0 rfl rfl 2 (by decide) ⟨rfl, rfl, rfl⟩ mm_X5_type_1 rfl dX5_type_2 ?_
  refine lv_iload_n (pc := 5) hx hb dX5_type_5 rfl (lv_at hl 1 rfl) ?_
  obtain ⟨r1, er1⟩ : ∃ z : Int32 × (Txt), fX4_append G.2.2.2.2.2 v = z := ⟨_, rfl⟩
  have hr1 := kX4_append l E t G.2.2.2.2.2 v hb0
  rw [er1] at hr1
  refine gcVi (pc := 6) (w1 := ((g0, .inr (5, [.ref (b 0), .ref u0, .ref (t 0), .int (G.1 0), .int (G.1 1), .int (G.1 2)])) :: ((wB E b G.2.1) ++ ((u0, .inr (3, [.ref u1, .int (nI G.2.2.1), .int G.2.2.2.1])) :: ((u1, .inl (eO E, 6, .inr (.inr (.inr (.inr (fun k => some (rr k 0))))))) :: ((wRg E rr G.2.2.2.2.1) ++ (wT E t r1.2))))))) (pre := ((g0, .inr (5, [.ref (b 0), .ref u0, .ref (t 0), .int (G.1 0), .int (G.1 1), .int (G.1 2)])) :: ((wB E b G.2.1) ++ ((u0, .inr (3, [.ref u1, .int (nI G.2.2.1), .int G.2.2.2.1])) :: ((u1, .inl (eO E, 6, .inr (.inr (.inr (.inr (fun k => some (rr k 0))))))) :: (wRg E rr G.2.2.2.2.1)))))) (post := []) (As := [.int v]) (rest := [.ref g0]) (q0 := 0) ⟨hx, hb, hml, hown, hts⟩ hr1 (cwV 1 hts gX5_type_X4_append rfl rfl rfl qvX4_append ⟨Nat.le_of_ble_eq_true rfl, Nat.le_of_ble_eq_true rfl⟩) hK hP hD hS hA (by simp only [List.cons_append, List.append_assoc, List.nil_append, List.append_nil]) (by simp only [List.cons_append, List.append_assoc, List.nil_append, List.append_nil]) rfl rfl rfl hl.1 rfl (Nat.le_of_ble_eq_true rfl) dX5_type_6 ⟨Nat.zero_le _, Nat.zero_le _⟩ (fun H locs hP hD hS => ?_)
  obtain ⟨r2, er2⟩ : ∃ z : Int32 × (GS), fX5_counted (G.1, G.2.1, G.2.2.1, G.2.2.2.1, G.2.2.2.2.1, r1.2) r1.1 = z := ⟨_, rfl⟩
  have hr2 := kX5_counted l E g0 b u0 u1 rr t (G.1, G.2.1, G.2.2.1, G.2.2.2.1, G.2.2.2.2.1, r1.2) r1.1
  rw [er2] at hr2
  refine gcVi0 (pc := 9) (w1 := ((g0, .inr (5, [.ref (b 0), .ref u0, .ref (t 0), .int (r2.2.1 0), .int (r2.2.1 1), .int (r2.2.1 2)])) :: ((wB E b r2.2.2.1) ++ ((u0, .inr (3, [.ref u1, .int (nI r2.2.2.2.1), .int r2.2.2.2.2.1])) :: ((u1, .inl (eO E, 6, .inr (.inr (.inr (.inr (fun k => some (rr k 0))))))) :: ((wRg E rr r2.2.2.2.2.2.1) ++ (wT E t r2.2.2.2.2.2.2))))))) (As := [.int r1.1]) (rest := []) (q0 := 0) ⟨hx, hb, hml, hown, hts⟩ hr2 (cwV 1 hts gX5_type_X5_counted rfl rfl rfl qvX5_counted ⟨Nat.le_of_ble_eq_true rfl, Nat.le_of_ble_eq_true rfl⟩) hK hP hD hS hA rfl rfl rfl rfl rfl hl.1 rfl (Nat.le_of_ble_eq_true rfl) dX5_type_9 ⟨Nat.zero_le _, Nat.zero_le _⟩ (fun H locs hP hD hS => ?_)
  have hfn : fX5_type G v = r2 := by
    subst er2
    subst er1
    exact rfl
  rw [hfn] at hQ
  exact hQ _ _ _ _ _ rfl hP hD hS dX5_type_12

def fX5_clear (G : GS) : Int32 × (GS) :=
  let r1 : Int32 × (Txt) := fX4_empty G.2.2.2.2.2
  (r1.1, (G.1, G.2.1, G.2.2.1, G.2.2.2.1, G.2.2.2.2.1, r1.2))
abbrev rX5_clear : Room := { frames := 1, cells := 0, slots := 0, locals := 21 }
theorem mm_X5_clear_1 : Cond.fieldLink RX5 26 "GaugeBounds" "text" "LGaugeBounds$Text;" ∈ wsX5_clear := List.mem_of_getElem? (i := 1) rfl
theorem ii_X5_clear_X5 : ∀ w ∈ wsX50, w ∈ wsX5_clear := fun _ h => List.mem_cons_of_mem _ (List.mem_append_left _ (List.mem_append_right _ (h)))
theorem qvX5_clear : yX5_clear.cls = RX5 ∧ yX5_clear.cls ≠ "java/lang/invoke/MethodHandle" ∧ yX5_clear.cls ≠ "java/lang/invoke/VarHandle" ∧ (parseMethodDescriptor yX5_clear.desc).map (fun d => d.parameters.length) = some 0 := by decide +kernel
set_option maxHeartbeats 4000000 in
set_option maxRecDepth 100000 in
theorem kX5_clear (l : Launch) (E : gEnv) (g0 : Nat) (b : Nat → Nat) (u0 u1 : Nat) (rr : Nat → Nat → Nat) (t : Nat → Nat) (G : GS) : gMi l E yX5_clear wsX5_clear rX5_clear [.ref g0] (wG E g0 b u0 u1 rr t G) (fX5_clear G).1 (wG E g0 b u0 u1 rr t ((fX5_clear G).2)) := by
  refine gMi_of (cc := cX5_clear) (maxL := 1) (ret := (some .int)) (by decide) rfl rfl (Nat.le_of_ble_eq_true rfl) ?_
  intro p e s m args below meth c A Q ls hB hQ
  obtain ⟨hx, hb, hml, hown, hts, hK, hP, hD, hA, hS, hl⟩ := hB
  have hown : s.vm.findClass RX5 = some m.cls := hown
  have hP : va_P E.1 vwCl ((g0, .inr (5, [.ref (b 0), .ref u0, .ref (t 0), .int (G.1 0), .int (G.1 1), .int (G.1 2)])) :: ((wB E b G.2.1) ++ ((u0, .inr (3, [.ref u1, .int (nI G.2.2.1), .int G.2.2.2.1])) :: ((u1, .inl (eO E, 6, .inr (.inr (.inr (.inr (fun k => some (rr k 0))))))) :: ((wRg E rr G.2.2.2.2.1) ++ (wT E t G.2.2.2.2.2)))))) s.heap := hP
  have hD : va_D A ((g0, .inr (5, [.ref (b 0), .ref u0, .ref (t 0), .int (G.1 0), .int (G.1 1), .int (G.1 2)])) :: ((wB E b G.2.1) ++ ((u0, .inr (3, [.ref u1, .int (nI G.2.2.1), .int G.2.2.2.1])) :: ((u1, .inl (eO E, 6, .inr (.inr (.inr (.inr (fun k => some (rr k 0))))))) :: ((wRg E rr G.2.2.2.2.1) ++ (wT E t G.2.2.2.2.2)))))) := hD
  have hl : lv_has ls 1 [(0, .ref g0)] := hl
  refine lv_aload_n (pc := 0) hx hb dX5_clear_0 rfl (lv_at hl 0 rfl) ?_
  refine g_get (v := .ref (t 0)) (pc := 1) hx hb hts ii_X5_clear_X5 hown hK.1 hP 0 rfl rfl 2 (by decide) ⟨rfl, rfl, rfl⟩ mm_X5_clear_1 rfl dX5_clear_1 ?_
  obtain ⟨r1, er1⟩ : ∃ z : Int32 × (Txt), fX4_empty G.2.2.2.2.2 = z := ⟨_, rfl⟩
  have hr1 := kX4_empty l E t G.2.2.2.2.2
  rw [er1] at hr1
  refine gcVi (pc := 4) (w1 := ((g0, .inr (5, [.ref (b 0), .ref u0, .ref (t 0), .int (G.1 0), .int (G.1 1), .int (G.1 2)])) :: ((wB E b G.2.1) ++ ((u0, .inr (3, [.ref u1, .int (nI G.2.2.1), .int G.2.2.2.1])) :: ((u1, .inl (eO E, 6, .inr (.inr (.inr (.inr (fun k => some (rr k 0))))))) :: ((wRg E rr G.2.2.2.2.1) ++ (wT E t r1.2))))))) (pre := ((g0, .inr (5, [.ref (b 0), .ref u0, .ref (t 0), .int (G.1 0), .int (G.1 1), .int (G.1 2)])) :: ((wB E b G.2.1) ++ ((u0, .inr (3, [.ref u1, .int (nI G.2.2.1), .int G.2.2.2.1])) :: ((u1, .inl (eO E, 6, .inr (.inr (.inr (.inr (fun k => some (rr k 0))))))) :: (wRg E rr G.2.2.2.2.1)))))) (post := []) (As := []) (rest := []) (q0 := 0) ⟨hx, hb, hml, hown, hts⟩ hr1 (cwV 0 hts gX5_clear_X4_empty rfl rfl rfl qvX4_empty ⟨Nat.le_of_ble_eq_true rfl, Nat.le_of_ble_eq_true rfl⟩) hK hP hD hS hA (by simp only [List.cons_append, List.append_assoc, List.nil_append, List.append_nil]) (by simp only [List.cons_append, List.append_assoc, List.nil_append, List.append_nil]) rfl rfl rfl hl.1 rfl (Nat.le_of_ble_eq_true rfl) dX5_clear_4 ⟨Nat.zero_le _, Nat.zero_le _⟩ (fun H locs hP hD hS => ?_)
  have hfn : fX5_clear G = (r1.1, (G.1, G.2.1, G.2.2.1, G.2.2.2.1, G.2.2.2.2.1, r1.2)) := by
    subst er1
    exact rfl
  rw [hfn] at hQ
  exact hQ _ _ _ _ _ rfl hP hD hS dX5_clear_7

theorem sz_p {x : Int32} (h : 0 ≤ x.toInt) (c : ¬ x = 0) : 0 < x := by
  rw [← Int32.toInt_inj] at c
  rw [Int32.lt_iff_toInt_lt]
  simp only [Int32.reduceToInt] at c ⊢
  omega

def fX5_back (G : GS) : Int32 × (GS) :=
  let r1 : Int32 := fX3_size G.2.2.2.1
  if r1 = 0 then
    let r5 : Int32 × (GS) := fX5_counted G (-10000003)
    r5
  else
    let r3 : Bat × Nat × Int32 := fX3_takeBack G.2.1 G.2.2.1 G.2.2.2.1 G.2.2.2.2.1
    let r4 : Int32 := fX3_size r3.2.2
    (r4, (G.1, r3.1, r3.2.1, r3.2.2, G.2.2.2.2.1, G.2.2.2.2.2))
abbrev rX5_back : Room := { frames := 5, cells := 0, slots := 0, locals := 102 }
theorem mm_X5_back_1 : Cond.fieldLink RX5 19 "GaugeBounds" "states" "LGaugeBounds$States;" ∈ wsX5_back := List.mem_of_getElem? (i := 1) rfl
theorem mm_X5_back_3 : Cond.fieldLink RX5 10 "GaugeBounds" "battery" "LGaugeBounds$Battery;" ∈ wsX5_back := List.mem_of_getElem? (i := 3) rfl
theorem mm_X5_back_2 : Cond.constant RX5 129 (-10000003) ∈ wsX5_back := List.mem_of_getElem? (i := 2) rfl
theorem ii_X5_back_X5 : ∀ w ∈ wsX50, w ∈ wsX5_back := fun _ h => List.mem_cons_of_mem _ (List.mem_append_left _ (List.mem_append_left _ (List.mem_append_left _ (List.mem_append_left _ (List.mem_append_right _ (h))))))
theorem qvX5_back : yX5_back.cls = RX5 ∧ yX5_back.cls ≠ "java/lang/invoke/MethodHandle" ∧ yX5_back.cls ≠ "java/lang/invoke/VarHandle" ∧ (parseMethodDescriptor yX5_back.desc).map (fun d => d.parameters.length) = some 0 := by decide +kernel
set_option maxHeartbeats 4000000 in
set_option maxRecDepth 100000 in
theorem kX5_back (l : Launch) (E : gEnv) (g0 : Nat) (b : Nat → Nat) (u0 u1 : Nat) (rr : Nat → Nat → Nat) (t : Nat → Nat) (G : GS) (hj : G.2.2.1 < 6) (hz : 0 ≤ (G.2.2.2.1).toInt) : gMi l E yX5_back wsX5_back rX5_back [.ref g0] (wG E g0 b u0 u1 rr t G) (fX5_back G).1 (wG E g0 b u0 u1 rr t ((fX5_back G).2)) := by
  refine gMi_of (cc := cX5_back) (maxL := 1) (ret := (some .int)) (by decide) rfl rfl (Nat.le_of_ble_eq_true rfl) ?_
  intro p e s m args below meth c A Q ls hB hQ
  obtain ⟨hx, hb, hml, hown, hts, hK, hP, hD, hA, hS, hl⟩ := hB
  have hown : s.vm.findClass RX5 = some m.cls := hown
  have hP : va_P E.1 vwCl ((g0, .inr (5, [.ref (b 0), .ref u0, .ref (t 0), .int (G.1 0), .int (G.1 1), .int (G.1 2)])) :: ((wB E b G.2.1) ++ ((u0, .inr (3, [.ref u1, .int (nI G.2.2.1), .int G.2.2.2.1])) :: ((u1, .inl (eO E, 6, .inr (.inr (.inr (.inr (fun k => some (rr k 0))))))) :: ((wRg E rr G.2.2.2.2.1) ++ (wT E t G.2.2.2.2.2)))))) s.heap := hP
  have hD : va_D A ((g0, .inr (5, [.ref (b 0), .ref u0, .ref (t 0), .int (G.1 0), .int (G.1 1), .int (G.1 2)])) :: ((wB E b G.2.1) ++ ((u0, .inr (3, [.ref u1, .int (nI G.2.2.1), .int G.2.2.2.1])) :: ((u1, .inl (eO E, 6, .inr (.inr (.inr (.inr (fun k => some (rr k 0))))))) :: ((wRg E rr G.2.2.2.2.1) ++ (wT E t G.2.2.2.2.2)))))) := hD
  have hl : lv_has ls 1 [(0, .ref g0)] := hl
  refine lv_aload_n (pc := 0) hx hb dX5_back_0 rfl (lv_at hl 0 rfl) ?_
  refine g_get (v := .ref u0) (pc := 1) hx hb hts ii_X5_back_X5 hown hK.1 hP 0 rfl rfl 1 (by decide) ⟨rfl, rfl, rfl⟩ mm_X5_back_1 rfl dX5_back_1 ?_
  obtain ⟨r1, er1⟩ : ∃ z : Int32, fX3_size G.2.2.2.1 = z := ⟨_, rfl⟩
  have hr1 := kX3_size l E u0 u1 G.2.2.1 G.2.2.2.1
  rw [er1] at hr1
  refine gcVi (pc := 4) (w1 := ((g0, .inr (5, [.ref (b 0), .ref u0, .ref (t 0), .int (G.1 0), .int (G.1 1), .int (G.1 2)])) :: ((wB E b G.2.1) ++ ((u0, .inr (3, [.ref u1, .int (nI G.2.2.1), .int G.2.2.2.1])) :: ((u1, .inl (eO E, 6, .inr (.inr (.inr (.inr (fun k => some (rr k 0))))))) :: ((wRg E rr G.2.2.2.2.1) ++ (wT E t G.2.2.2.2.2))))))) (pre := ((g0, .inr (5, [.ref (b 0), .ref u0, .ref (t 0), .int (G.1 0), .int (G.1 1), .int (G.1 2)])) :: (wB E b G.2.1))) (post := ((u1, .inl (eO E, 6, .inr (.inr (.inr (.inr (fun k => some (rr k 0))))))) :: ((wRg E rr G.2.2.2.2.1) ++ (wT E t G.2.2.2.2.2)))) (As := []) (rest := []) (q0 := 0) ⟨hx, hb, hml, hown, hts⟩ hr1 (cwV 0 hts gX5_back_X3_size rfl rfl rfl qvX3_size ⟨Nat.le_of_ble_eq_true rfl, Nat.le_of_ble_eq_true rfl⟩) hK hP hD hS hA (by simp only [List.cons_append, List.append_assoc, List.nil_append, List.append_nil]) (by simp only [List.cons_append, List.append_assoc, List.nil_append, List.append_nil]) rfl rfl rfl hl.1 rfl (Nat.le_of_ble_eq_true rfl) dX5_back_4 ⟨Nat.zero_le _, Nat.zero_le _⟩ (fun H locs hP hD hS => ?_)
  refine lv_if_ne (tgt := 17) (pc := 7) hx hb dX5_back_7 (by decide) (fun c_2 => ?_) (fun c_2 => ?_)
  · refine lv_aload_n (pc := 17) hx hb dX5_back_17 rfl (lv_at hl 0 rfl) ?_
    refine g_get (v := .ref u0) (pc := 18) hx hb hts ii_X5_back_X5 hown hK.1 hP 0 rfl rfl 1 (by decide) ⟨rfl, rfl, rfl⟩ mm_X5_back_1 rfl dX5_back_18 ?_
    refine lv_aload_n (pc := 21) hx hb dX5_back_21 rfl (lv_at hl 0 rfl) ?_
    refine g_get (v := .ref (b 0)) (pc := 22) hx hb hts ii_X5_back_X5 hown hK.1 hP 0 rfl rfl 0 (by decide) ⟨rfl, rfl, rfl⟩ mm_X5_back_3 rfl dX5_back_22 ?_
    obtain ⟨r3, er3⟩ : ∃ z : Bat × Nat × Int32, fX3_takeBack G.2.1 G.2.2.1 G.2.2.2.1 G.2.2.2.2.1 = z := ⟨_, rfl⟩
    have hr3 := kX3_takeBack l E b u0 u1 rr G.2.1 G.2.2.1 G.2.2.2.1 G.2.2.2.2.1 hj (by subst er1; exact sz_p hz c_2)
    rw [er3] at hr3
    refine gcVv (pc := 25) (w1 := ((g0, .inr (5, [.ref (b 0), .ref u0, .ref (t 0), .int (G.1 0), .int (G.1 1), .int (G.1 2)])) :: ((wB E b r3.1) ++ ((u0, .inr (3, [.ref u1, .int (nI r3.2.1), .int r3.2.2])) :: ((u1, .inl (eO E, 6, .inr (.inr (.inr (.inr (fun k => some (rr k 0))))))) :: ((wRg E rr G.2.2.2.2.1) ++ (wT E t G.2.2.2.2.2))))))) (pre := [(g0, .inr (5, [.ref (b 0), .ref u0, .ref (t 0), .int (G.1 0), .int (G.1 1), .int (G.1 2)]))]) (post := (wT E t G.2.2.2.2.2)) (As := [.ref (b 0)]) (rest := []) (q0 := 6) ⟨hx, hb, hml, hown, hts⟩ hr3 (cwV 1 hts gX5_back_X3_takeBack rfl rfl rfl qvX3_takeBack ⟨Nat.le_of_ble_eq_true rfl, Nat.le_of_ble_eq_true rfl⟩) hK hP hD hS hA (by simp only [List.cons_append, List.append_assoc, List.nil_append, List.append_nil]) (by simp only [List.cons_append, List.append_assoc, List.nil_append, List.append_nil]) rfl rfl rfl hl.1 rfl (Nat.le_of_ble_eq_true rfl) dX5_back_25 ⟨Nat.zero_le _, Nat.zero_le _⟩ (fun H locs hP hD hS => ?_)
    refine lv_aload_n (pc := 28) hx hb dX5_back_28 rfl (lv_at hl 0 rfl) ?_
    refine g_get (v := .ref u0) (pc := 29) hx hb hts ii_X5_back_X5 hown hK.1 hP 0 rfl rfl 1 (by decide) ⟨rfl, rfl, rfl⟩ mm_X5_back_1 rfl dX5_back_29 ?_
    obtain ⟨r4, er4⟩ : ∃ z : Int32, fX3_size r3.2.2 = z := ⟨_, rfl⟩
    have hr4 := kX3_size l E u0 u1 r3.2.1 r3.2.2
    rw [er4] at hr4
    refine gcVi (pc := 32) (w1 := ((g0, .inr (5, [.ref (b 0), .ref u0, .ref (t 0), .int (G.1 0), .int (G.1 1), .int (G.1 2)])) :: ((wB E b r3.1) ++ ((u0, .inr (3, [.ref u1, .int (nI r3.2.1), .int r3.2.2])) :: ((u1, .inl (eO E, 6, .inr (.inr (.inr (.inr (fun k => some (rr k 0))))))) :: ((wRg E rr G.2.2.2.2.1) ++ (wT E t G.2.2.2.2.2))))))) (pre := ((g0, .inr (5, [.ref (b 0), .ref u0, .ref (t 0), .int (G.1 0), .int (G.1 1), .int (G.1 2)])) :: (wB E b r3.1))) (post := ((u1, .inl (eO E, 6, .inr (.inr (.inr (.inr (fun k => some (rr k 0))))))) :: ((wRg E rr G.2.2.2.2.1) ++ (wT E t G.2.2.2.2.2)))) (As := []) (rest := []) (q0 := 0) ⟨hx, hb, hml, hown, hts⟩ hr4 (cwV 0 hts gX5_back_X3_size rfl rfl rfl qvX3_size ⟨Nat.le_of_ble_eq_true rfl, Nat.le_of_ble_eq_true rfl⟩) hK hP hD hS hA (by simp only [List.cons_append, List.append_assoc, List.nil_append, List.append_nil]) (by simp only [List.cons_append, List.append_assoc, List.nil_append, List.append_nil]) rfl rfl rfl hl.1 rfl (Nat.le_of_ble_eq_true rfl) dX5_back_32 ⟨Nat.zero_le _, Nat.zero_le _⟩ (fun H locs hP hD hS => ?_)
    have hfn : fX5_back G = (r4, (G.1, r3.1, r3.2.1, r3.2.2, G.2.2.2.2.1, G.2.2.2.2.2)) := by
      subst er4
      subst er3
      subst er1
      exact if_neg c_2
    rw [hfn] at hQ
    exact hQ _ _ _ _ _ rfl hP hD hS dX5_back_35
  · refine lv_aload_n (pc := 10) hx hb dX5_back_10 rfl (lv_at hl 0 rfl) ?_
    refine lv_ldc (v := (-10000003)) (pc := 11) hx hb hown (hts _ mm_X5_back_2) dX5_back_11 ?_
    obtain ⟨r5, er5⟩ : ∃ z : Int32 × (GS), fX5_counted G (-10000003) = z := ⟨_, rfl⟩
    have hr5 := kX5_counted l E g0 b u0 u1 rr t G (-10000003)
    rw [er5] at hr5
    refine gcVi0 (pc := 13) (w1 := ((g0, .inr (5, [.ref (b 0), .ref u0, .ref (t 0), .int (r5.2.1 0), .int (r5.2.1 1), .int (r5.2.1 2)])) :: ((wB E b r5.2.2.1) ++ ((u0, .inr (3, [.ref u1, .int (nI r5.2.2.2.1), .int r5.2.2.2.2.1])) :: ((u1, .inl (eO E, 6, .inr (.inr (.inr (.inr (fun k => some (rr k 0))))))) :: ((wRg E rr r5.2.2.2.2.2.1) ++ (wT E t r5.2.2.2.2.2.2))))))) (As := [.int (-10000003)]) (rest := []) (q0 := 0) ⟨hx, hb, hml, hown, hts⟩ hr5 (cwV 1 hts gX5_back_X5_counted rfl rfl rfl qvX5_counted ⟨Nat.le_of_ble_eq_true rfl, Nat.le_of_ble_eq_true rfl⟩) hK hP hD hS hA rfl rfl rfl rfl rfl hl.1 rfl (Nat.le_of_ble_eq_true rfl) dX5_back_13 ⟨Nat.zero_le _, Nat.zero_le _⟩ (fun H locs hP hD hS => ?_)
    have hfn : fX5_back G = r5 := by
      subst er5
      subst er1
      exact if_pos c_2
    rw [hfn] at hQ
    exact hQ _ _ _ _ _ rfl hP hD hS dX5_back_16

def fX5_refused (G : GS) (w : Int32) : Int32 × (GS) :=
  if w = 0 then
    (G.1 0, G)
  else
    if w = 1 then
      (G.1 1, G)
    else
      if w = 2 then
        (G.1 2, G)
      else
        if w = 3 then
          let r5 : Int32 := fX4_length G.2.2.2.2.2
          (r5, G)
        else
          if w = 4 then
            let r7 : Int32 := fX3_size G.2.2.2.1
            (r7, G)
          else
            let r8 : Int32 × (GS) := fX5_counted G (-10000002)
            r8
abbrev rX5_refused : Room := { frames := 1, cells := 0, slots := 0, locals := 21 }
theorem mm_X5_refused_1 : Cond.fieldLink RX5 133 "GaugeBounds" "timesBad" "I" ∈ wsX5_refused := List.mem_of_getElem? (i := 1) rfl
theorem mm_X5_refused_2 : Cond.fieldLink RX5 137 "GaugeBounds" "timesNo" "I" ∈ wsX5_refused := List.mem_of_getElem? (i := 2) rfl
theorem mm_X5_refused_3 : Cond.fieldLink RX5 140 "GaugeBounds" "timesFull" "I" ∈ wsX5_refused := List.mem_of_getElem? (i := 3) rfl
theorem mm_X5_refused_4 : Cond.fieldLink RX5 26 "GaugeBounds" "text" "LGaugeBounds$Text;" ∈ wsX5_refused := List.mem_of_getElem? (i := 4) rfl
theorem mm_X5_refused_5 : Cond.fieldLink RX5 19 "GaugeBounds" "states" "LGaugeBounds$States;" ∈ wsX5_refused := List.mem_of_getElem? (i := 5) rfl
theorem mm_X5_refused_6 : Cond.constant RX5 67 (-10000002) ∈ wsX5_refused := List.mem_of_getElem? (i := 6) rfl
theorem ii_X5_refused_X5 : ∀ w ∈ wsX50, w ∈ wsX5_refused := fun _ h => List.mem_cons_of_mem _ (List.mem_append_left _ (List.mem_append_left _ (List.mem_append_right _ (h))))
theorem qvX5_refused : yX5_refused.cls = RX5 ∧ yX5_refused.cls ≠ "java/lang/invoke/MethodHandle" ∧ yX5_refused.cls ≠ "java/lang/invoke/VarHandle" ∧ (parseMethodDescriptor yX5_refused.desc).map (fun d => d.parameters.length) = some 1 := by decide +kernel
set_option maxHeartbeats 4000000 in
set_option maxRecDepth 100000 in
theorem kX5_refused (l : Launch) (E : gEnv) (g0 : Nat) (b : Nat → Nat) (u0 u1 : Nat) (rr : Nat → Nat → Nat) (t : Nat → Nat) (G : GS) (w : Int32) : gMi l E yX5_refused wsX5_refused rX5_refused [.ref g0, .int w] (wG E g0 b u0 u1 rr t G) (fX5_refused G w).1 (wG E g0 b u0 u1 rr t ((fX5_refused G w).2)) := by
  refine gMi_of (cc := cX5_refused) (maxL := 2) (ret := (some .int)) (by decide) rfl rfl (Nat.le_of_ble_eq_true rfl) ?_
  intro p e s m args below meth c A Q ls hB hQ
  obtain ⟨hx, hb, hml, hown, hts, hK, hP, hD, hA, hS, hl⟩ := hB
  have hown : s.vm.findClass RX5 = some m.cls := hown
  have hP : va_P E.1 vwCl ((g0, .inr (5, [.ref (b 0), .ref u0, .ref (t 0), .int (G.1 0), .int (G.1 1), .int (G.1 2)])) :: ((wB E b G.2.1) ++ ((u0, .inr (3, [.ref u1, .int (nI G.2.2.1), .int G.2.2.2.1])) :: ((u1, .inl (eO E, 6, .inr (.inr (.inr (.inr (fun k => some (rr k 0))))))) :: ((wRg E rr G.2.2.2.2.1) ++ (wT E t G.2.2.2.2.2)))))) s.heap := hP
  have hD : va_D A ((g0, .inr (5, [.ref (b 0), .ref u0, .ref (t 0), .int (G.1 0), .int (G.1 1), .int (G.1 2)])) :: ((wB E b G.2.1) ++ ((u0, .inr (3, [.ref u1, .int (nI G.2.2.1), .int G.2.2.2.1])) :: ((u1, .inl (eO E, 6, .inr (.inr (.inr (.inr (fun k => some (rr k 0))))))) :: ((wRg E rr G.2.2.2.2.1) ++ (wT E t G.2.2.2.2.2)))))) := hD
  have hl : lv_has ls 2 [(0, .ref g0), (1, .int w)] := hl
  refine lv_iload_n (pc := 0) hx hb dX5_refused_0 rfl (lv_at hl 1 rfl) ?_
  by_cases c_1 : w = 0
  · refine lv_tableIn (tgt := 36) (pc := 1) hx hb dX5_refused_1 (by rw [c_1]; decide) (by rw [c_1]; decide) (by rw [c_1] <;> rfl) (by decide) ?_
    refine lv_aload_n (pc := 36) hx hb dX5_refused_36 rfl (lv_at hl 0 rfl) ?_
    refine g_get (v := .int (G.1 0)) (pc := 37) hx hb hts ii_X5_refused_X5 hown hK.1 hP 0 rfl rfl 3 (by decide) ⟨rfl, rfl, rfl⟩ mm_X5_refused_1 rfl dX5_refused_37 ?_
    have hfn : fX5_refused G w = (G.1 0, G) := by
      exact if_pos c_1
    rw [hfn] at hQ
    exact hQ _ _ _ _ _ rfl hP hD hS dX5_refused_40
  by_cases c_2 : w = 1
  · refine lv_tableIn (tgt := 41) (pc := 1) hx hb dX5_refused_1 (by rw [c_2]; decide) (by rw [c_2]; decide) (by rw [c_2] <;> rfl) (by decide) ?_
    refine lv_aload_n (pc := 41) hx hb dX5_refused_41 rfl (lv_at hl 0 rfl) ?_
    refine g_get (v := .int (G.1 1)) (pc := 42) hx hb hts ii_X5_refused_X5 hown hK.1 hP 0 rfl rfl 4 (by decide) ⟨rfl, rfl, rfl⟩ mm_X5_refused_2 rfl dX5_refused_42 ?_
    have hfn : fX5_refused G w = (G.1 1, G) := by
      exact (if_neg c_1).trans (if_pos c_2)
    rw [hfn] at hQ
    exact hQ _ _ _ _ _ rfl hP hD hS dX5_refused_45
  by_cases c_3 : w = 2
  · refine lv_tableIn (tgt := 46) (pc := 1) hx hb dX5_refused_1 (by rw [c_3]; decide) (by rw [c_3]; decide) (by rw [c_3] <;> rfl) (by decide) ?_
    refine lv_aload_n (pc := 46) hx hb dX5_refused_46 rfl (lv_at hl 0 rfl) ?_
    refine g_get (v := .int (G.1 2)) (pc := 47) hx hb hts ii_X5_refused_X5 hown hK.1 hP 0 rfl rfl 5 (by decide) ⟨rfl, rfl, rfl⟩ mm_X5_refused_3 rfl dX5_refused_47 ?_
    have hfn : fX5_refused G w = (G.1 2, G) := by
      exact (if_neg c_1).trans ((if_neg c_2).trans (if_pos c_3))
    rw [hfn] at hQ
    exact hQ _ _ _ _ _ rfl hP hD hS dX5_refused_50
  by_cases c_4 : w = 3
  · refine lv_tableIn (tgt := 51) (pc := 1) hx hb dX5_refused_1 (by rw [c_4]; decide) (by rw [c_4]; decide) (by rw [c_4] <;> rfl) (by decide) ?_
    refine lv_aload_n (pc := 51) hx hb dX5_refused_51 rfl (lv_at hl 0 rfl) ?_
    refine g_get (v := .ref (t 0)) (pc := 52) hx hb hts ii_X5_refused_X5 hown hK.1 hP 0 rfl rfl 2 (by decide) ⟨rfl, rfl, rfl⟩ mm_X5_refused_4 rfl dX5_refused_52 ?_
    obtain ⟨r5, er5⟩ : ∃ z : Int32, fX4_length G.2.2.2.2.2 = z := ⟨_, rfl⟩
    have hr5 := kX4_length l E t G.2.2.2.2.2
    rw [er5] at hr5
    refine gcVi (pc := 55) (w1 := ((g0, .inr (5, [.ref (b 0), .ref u0, .ref (t 0), .int (G.1 0), .int (G.1 1), .int (G.1 2)])) :: ((wB E b G.2.1) ++ ((u0, .inr (3, [.ref u1, .int (nI G.2.2.1), .int G.2.2.2.1])) :: ((u1, .inl (eO E, 6, .inr (.inr (.inr (.inr (fun k => some (rr k 0))))))) :: ((wRg E rr G.2.2.2.2.1) ++ (wT E t G.2.2.2.2.2))))))) (pre := ((g0, .inr (5, [.ref (b 0), .ref u0, .ref (t 0), .int (G.1 0), .int (G.1 1), .int (G.1 2)])) :: ((wB E b G.2.1) ++ ((u0, .inr (3, [.ref u1, .int (nI G.2.2.1), .int G.2.2.2.1])) :: ((u1, .inl (eO E, 6, .inr (.inr (.inr (.inr (fun k => some (rr k 0))))))) :: (wRg E rr G.2.2.2.2.1)))))) (post := []) (As := []) (rest := []) (q0 := 0) ⟨hx, hb, hml, hown, hts⟩ hr5 (cwV 0 hts gX5_refused_X4_length rfl rfl rfl qvX4_length ⟨Nat.le_of_ble_eq_true rfl, Nat.le_of_ble_eq_true rfl⟩) hK hP hD hS hA (by simp only [List.cons_append, List.append_assoc, List.nil_append, List.append_nil]) (by simp only [List.cons_append, List.append_assoc, List.nil_append, List.append_nil]) rfl rfl rfl hl.1 rfl (Nat.le_of_ble_eq_true rfl) dX5_refused_55 ⟨Nat.zero_le _, Nat.zero_le _⟩ (fun H locs hP hD hS => ?_)
    have hfn : fX5_refused G w = (r5, G) := by
      subst er5
      exact (if_neg c_1).trans ((if_neg c_2).trans ((if_neg c_3).trans (if_pos c_4)))
    rw [hfn] at hQ
    exact hQ _ _ _ _ _ rfl hP hD hS dX5_refused_58
  by_cases c_6 : w = 4
  · refine lv_tableIn (tgt := 59) (pc := 1) hx hb dX5_refused_1 (by rw [c_6]; decide) (by rw [c_6]; decide) (by rw [c_6] <;> rfl) (by decide) ?_
    refine lv_aload_n (pc := 59) hx hb dX5_refused_59 rfl (lv_at hl 0 rfl) ?_
    refine g_get (v := .ref u0) (pc := 60) hx hb hts ii_X5_refused_X5 hown hK.1 hP 0 rfl rfl 1 (by decide) ⟨rfl, rfl, rfl⟩ mm_X5_refused_5 rfl dX5_refused_60 ?_
    obtain ⟨r7, er7⟩ : ∃ z : Int32, fX3_size G.2.2.2.1 = z := ⟨_, rfl⟩
    have hr7 := kX3_size l E u0 u1 G.2.2.1 G.2.2.2.1
    rw [er7] at hr7
    refine gcVi (pc := 63) (w1 := ((g0, .inr (5, [.ref (b 0), .ref u0, .ref (t 0), .int (G.1 0), .int (G.1 1), .int (G.1 2)])) :: ((wB E b G.2.1) ++ ((u0, .inr (3, [.ref u1, .int (nI G.2.2.1), .int G.2.2.2.1])) :: ((u1, .inl (eO E, 6, .inr (.inr (.inr (.inr (fun k => some (rr k 0))))))) :: ((wRg E rr G.2.2.2.2.1) ++ (wT E t G.2.2.2.2.2))))))) (pre := ((g0, .inr (5, [.ref (b 0), .ref u0, .ref (t 0), .int (G.1 0), .int (G.1 1), .int (G.1 2)])) :: (wB E b G.2.1))) (post := ((u1, .inl (eO E, 6, .inr (.inr (.inr (.inr (fun k => some (rr k 0))))))) :: ((wRg E rr G.2.2.2.2.1) ++ (wT E t G.2.2.2.2.2)))) (As := []) (rest := []) (q0 := 0) ⟨hx, hb, hml, hown, hts⟩ hr7 (cwV 0 hts gX5_refused_X3_size rfl rfl rfl qvX3_size ⟨Nat.le_of_ble_eq_true rfl, Nat.le_of_ble_eq_true rfl⟩) hK hP hD hS hA (by simp only [List.cons_append, List.append_assoc, List.nil_append, List.append_nil]) (by simp only [List.cons_append, List.append_assoc, List.nil_append, List.append_nil]) rfl rfl rfl hl.1 rfl (Nat.le_of_ble_eq_true rfl) dX5_refused_63 ⟨Nat.zero_le _, Nat.zero_le _⟩ (fun H locs hP hD hS => ?_)
    have hfn : fX5_refused G w = (r7, G) := by
      subst er7
      exact (if_neg c_1).trans ((if_neg c_2).trans ((if_neg c_3).trans ((if_neg c_4).trans (if_pos c_6))))
    rw [hfn] at hQ
    exact hQ _ _ _ _ _ rfl hP hD hS dX5_refused_66
  have tc_1 : ¬ w.toInt = 0 := fun h => c_1 (Int32.toInt_inj.mp (h.trans (by decide)))
  have tc_2 : ¬ w.toInt = 1 := fun h => c_2 (Int32.toInt_inj.mp (h.trans (by decide)))
  have tc_3 : ¬ w.toInt = 2 := fun h => c_3 (Int32.toInt_inj.mp (h.trans (by decide)))
  have tc_4 : ¬ w.toInt = 3 := fun h => c_4 (Int32.toInt_inj.mp (h.trans (by decide)))
  have tc_6 : ¬ w.toInt = 4 := fun h => c_6 (Int32.toInt_inj.mp (h.trans (by decide)))
  refine lv_tableOut (tgt := 67) (pc := 1) hx hb dX5_refused_1 (by omega) (by decide) ?_
  refine lv_aload_n (pc := 67) hx hb dX5_refused_67 rfl (lv_at hl 0 rfl) ?_
  refine lv_ldc (v := (-10000002)) (pc := 68) hx hb hown (hts _ mm_X5_refused_6) dX5_refused_68 ?_
  obtain ⟨r8, er8⟩ : ∃ z : Int32 × (GS), fX5_counted G (-10000002) = z := ⟨_, rfl⟩
  have hr8 := kX5_counted l E g0 b u0 u1 rr t G (-10000002)
  rw [er8] at hr8
  refine gcVi0 (pc := 70) (w1 := ((g0, .inr (5, [.ref (b 0), .ref u0, .ref (t 0), .int (r8.2.1 0), .int (r8.2.1 1), .int (r8.2.1 2)])) :: ((wB E b r8.2.2.1) ++ ((u0, .inr (3, [.ref u1, .int (nI r8.2.2.2.1), .int r8.2.2.2.2.1])) :: ((u1, .inl (eO E, 6, .inr (.inr (.inr (.inr (fun k => some (rr k 0))))))) :: ((wRg E rr r8.2.2.2.2.2.1) ++ (wT E t r8.2.2.2.2.2.2))))))) (As := [.int (-10000002)]) (rest := []) (q0 := 0) ⟨hx, hb, hml, hown, hts⟩ hr8 (cwV 1 hts gX5_refused_X5_counted rfl rfl rfl qvX5_counted ⟨Nat.le_of_ble_eq_true rfl, Nat.le_of_ble_eq_true rfl⟩) hK hP hD hS hA rfl rfl rfl rfl rfl hl.1 rfl (Nat.le_of_ble_eq_true rfl) dX5_refused_70 ⟨Nat.zero_le _, Nat.zero_le _⟩ (fun H locs hP hD hS => ?_)
  have hfn : fX5_refused G w = r8 := by
    subst er8
    exact (if_neg c_1).trans ((if_neg c_2).trans ((if_neg c_3).trans ((if_neg c_4).trans (if_neg c_6))))
  rw [hfn] at hQ
  exact hQ _ _ _ _ _ rfl hP hD hS dX5_refused_73

def fX5_obey (G : GS) (v : Int32) : Int32 × (GS) :=
  let r1 : Int32 := fX4_firstOf G.2.2.2.2.2 v
  let r2 : Int32 := fX4_secondOf G.2.2.2.2.2 v
  let r3 : Int32 := fX4_kindOf G.2.2.2.2.2 v
  if r3 = 99 then
    let r5 : Int32 × (Bat) := fX1_putPoint G.2.1 r1 r2
    (r5.1, (G.1, r5.2, G.2.2.1, G.2.2.2.1, G.2.2.2.2.1, G.2.2.2.2.2))
  else
    if r3 = 103 then
      let r7 : Int32 × (Bat) := fX1_putCling G.2.1 r1
      (r7.1, (G.1, r7.2, G.2.2.1, G.2.2.2.1, G.2.2.2.2.1, G.2.2.2.2.2))
    else
      if r3 = 108 then
        let r9 : Int32 × (Bat) := fX1_load G.2.1 r1 r2
        (r9.1, (G.1, r9.2, G.2.2.1, G.2.2.2.1, G.2.2.2.2.1, G.2.2.2.2.2))
      else
        if r3 = 111 then
          let r11 : Int32 × (Bat) := fX1_putOffset G.2.1 r1
          (r11.1, (G.1, r11.2, G.2.2.1, G.2.2.2.1, G.2.2.2.2.1, G.2.2.2.2.2))
        else
          if r3 = 112 then
            let r13 : Int32 × (Bat) := fX1_pass G.2.1 r1 r2
            (r13.1, (G.1, r13.2, G.2.2.1, G.2.2.2.1, G.2.2.2.2.1, G.2.2.2.2.2))
          else
            if r3 = 114 then
              let r15 : Int32 × (Bat) := fX1_rest G.2.1 r1
              (r15.1, (G.1, r15.2, G.2.2.1, G.2.2.2.1, G.2.2.2.2.1, G.2.2.2.2.2))
            else
              ((-10000002), G)
abbrev rX5_obey : Room := { frames := 5, cells := 0, slots := 0, locals := 115 }
theorem mm_X5_obey_1 : Cond.fieldLink RX5 26 "GaugeBounds" "text" "LGaugeBounds$Text;" ∈ wsX5_obey := List.mem_of_getElem? (i := 1) rfl
theorem mm_X5_obey_2 : Cond.fieldLink RX5 10 "GaugeBounds" "battery" "LGaugeBounds$Battery;" ∈ wsX5_obey := List.mem_of_getElem? (i := 2) rfl
theorem mm_X5_obey_3 : Cond.constant RX5 67 (-10000002) ∈ wsX5_obey := List.mem_of_getElem? (i := 3) rfl
theorem ii_X5_obey_X5 : ∀ w ∈ wsX50, w ∈ wsX5_obey := fun _ h => List.mem_cons_of_mem _ (List.mem_append_left _ (List.mem_append_left _ (List.mem_append_left _ (List.mem_append_left _ (List.mem_append_right _ (h))))))
theorem qvX5_obey : yX5_obey.cls = RX5 ∧ yX5_obey.cls ≠ "java/lang/invoke/MethodHandle" ∧ yX5_obey.cls ≠ "java/lang/invoke/VarHandle" ∧ (parseMethodDescriptor yX5_obey.desc).map (fun d => d.parameters.length) = some 1 := by decide +kernel
set_option maxHeartbeats 4000000 in
set_option maxRecDepth 100000 in
theorem kX5_obey (l : Launch) (E : gEnv) (g0 : Nat) (b : Nat → Nat) (u0 u1 : Nat) (rr : Nat → Nat → Nat) (t : Nat → Nat) (G : GS) (v : Int32) (ho : 0 ≤ (G.2.2.2.2.2.1 1).toInt ∧ (G.2.2.2.2.2.1 1).toInt ≤ 40) : gMi l E yX5_obey wsX5_obey rX5_obey [.ref g0, .int v] (wG E g0 b u0 u1 rr t G) (fX5_obey G v).1 (wG E g0 b u0 u1 rr t ((fX5_obey G v).2)) := by
  refine gMi_of (cc := cX5_obey) (maxL := 4) (ret := (some .int)) (by decide) rfl rfl (Nat.le_of_ble_eq_true rfl) ?_
  intro p e s m args below meth c A Q ls hB hQ
  obtain ⟨hx, hb, hml, hown, hts, hK, hP, hD, hA, hS, hl⟩ := hB
  have hown : s.vm.findClass RX5 = some m.cls := hown
  have hP : va_P E.1 vwCl ((g0, .inr (5, [.ref (b 0), .ref u0, .ref (t 0), .int (G.1 0), .int (G.1 1), .int (G.1 2)])) :: ((wB E b G.2.1) ++ ((u0, .inr (3, [.ref u1, .int (nI G.2.2.1), .int G.2.2.2.1])) :: ((u1, .inl (eO E, 6, .inr (.inr (.inr (.inr (fun k => some (rr k 0))))))) :: ((wRg E rr G.2.2.2.2.1) ++ (wT E t G.2.2.2.2.2)))))) s.heap := hP
  have hD : va_D A ((g0, .inr (5, [.ref (b 0), .ref u0, .ref (t 0), .int (G.1 0), .int (G.1 1), .int (G.1 2)])) :: ((wB E b G.2.1) ++ ((u0, .inr (3, [.ref u1, .int (nI G.2.2.1), .int G.2.2.2.1])) :: ((u1, .inl (eO E, 6, .inr (.inr (.inr (.inr (fun k => some (rr k 0))))))) :: ((wRg E rr G.2.2.2.2.1) ++ (wT E t G.2.2.2.2.2)))))) := hD
  have hl : lv_has ls 4 [(0, .ref g0), (1, .int v)] := hl
  refine lv_aload_n (pc := 0) hx hb dX5_obey_0 rfl (lv_at hl 0 rfl) ?_
  refine g_get (v := .ref (t 0)) (pc := 1) hx hb hts ii_X5_obey_X5 hown hK.1 hP 0 rfl rfl 2 (by decide) ⟨rfl, rfl, rfl⟩ mm_X5_obey_1 rfl dX5_obey_1 ?_
  refine lv_iload_n (pc := 4) hx hb dX5_obey_4 rfl (lv_at hl 1 rfl) ?_
  obtain ⟨r1, er1⟩ : ∃ z : Int32, fX4_firstOf G.2.2.2.2.2 v = z := ⟨_, rfl⟩
  have hr1 := kX4_firstOf l E t G.2.2.2.2.2 v ho
  rw [er1] at hr1
  refine gcVi (pc := 5) (w1 := ((g0, .inr (5, [.ref (b 0), .ref u0, .ref (t 0), .int (G.1 0), .int (G.1 1), .int (G.1 2)])) :: ((wB E b G.2.1) ++ ((u0, .inr (3, [.ref u1, .int (nI G.2.2.1), .int G.2.2.2.1])) :: ((u1, .inl (eO E, 6, .inr (.inr (.inr (.inr (fun k => some (rr k 0))))))) :: ((wRg E rr G.2.2.2.2.1) ++ (wT E t G.2.2.2.2.2))))))) (pre := ((g0, .inr (5, [.ref (b 0), .ref u0, .ref (t 0), .int (G.1 0), .int (G.1 1), .int (G.1 2)])) :: ((wB E b G.2.1) ++ ((u0, .inr (3, [.ref u1, .int (nI G.2.2.1), .int G.2.2.2.1])) :: ((u1, .inl (eO E, 6, .inr (.inr (.inr (.inr (fun k => some (rr k 0))))))) :: (wRg E rr G.2.2.2.2.1)))))) (post := []) (As := [.int v]) (rest := []) (q0 := 0) ⟨hx, hb, hml, hown, hts⟩ hr1 (cwV 1 hts gX5_obey_X4_firstOf rfl rfl rfl qvX4_firstOf ⟨Nat.le_of_ble_eq_true rfl, Nat.le_of_ble_eq_true rfl⟩) hK hP hD hS hA (by simp only [List.cons_append, List.append_assoc, List.nil_append, List.append_nil]) (by simp only [List.cons_append, List.append_assoc, List.nil_append, List.append_nil]) rfl rfl rfl hl.1 rfl (Nat.le_of_ble_eq_true rfl) dX5_obey_5 ⟨Nat.zero_le _, Nat.zero_le _⟩ (fun H locs hP hD hS => ?_)
  refine lv_istore_n (lv' := [(2, .int r1), (0, .ref g0), (1, .int v)]) (pc := 8) hx hb dX5_obey_8 rfl hl (by decide) rfl (fun ls hl => ?_)
  refine lv_aload_n (pc := 9) hx hb dX5_obey_9 rfl (lv_at hl 1 rfl) ?_
  refine g_get (v := .ref (t 0)) (pc := 10) hx hb hts ii_X5_obey_X5 hown hK.1 hP 0 rfl rfl 2 (by decide) ⟨rfl, rfl, rfl⟩ mm_X5_obey_1 rfl dX5_obey_10 ?_
  refine lv_iload_n (pc := 13) hx hb dX5_obey_13 rfl (lv_at hl 2 rfl) ?_
  obtain ⟨r2, er2⟩ : ∃ z : Int32, fX4_secondOf G.2.2.2.2.2 v = z := ⟨_, rfl⟩
  have hr2 := kX4_secondOf l E t G.2.2.2.2.2 v ho
  rw [er2] at hr2
  refine gcVi (pc := 14) (w1 := ((g0, .inr (5, [.ref (b 0), .ref u0, .ref (t 0), .int (G.1 0), .int (G.1 1), .int (G.1 2)])) :: ((wB E b G.2.1) ++ ((u0, .inr (3, [.ref u1, .int (nI G.2.2.1), .int G.2.2.2.1])) :: ((u1, .inl (eO E, 6, .inr (.inr (.inr (.inr (fun k => some (rr k 0))))))) :: ((wRg E rr G.2.2.2.2.1) ++ (wT E t G.2.2.2.2.2))))))) (pre := ((g0, .inr (5, [.ref (b 0), .ref u0, .ref (t 0), .int (G.1 0), .int (G.1 1), .int (G.1 2)])) :: ((wB E b G.2.1) ++ ((u0, .inr (3, [.ref u1, .int (nI G.2.2.1), .int G.2.2.2.1])) :: ((u1, .inl (eO E, 6, .inr (.inr (.inr (.inr (fun k => some (rr k 0))))))) :: (wRg E rr G.2.2.2.2.1)))))) (post := []) (As := [.int v]) (rest := []) (q0 := 0) ⟨hx, hb, hml, hown, hts⟩ hr2 (cwV 1 hts gX5_obey_X4_secondOf rfl rfl rfl qvX4_secondOf ⟨Nat.le_of_ble_eq_true rfl, Nat.le_of_ble_eq_true rfl⟩) hK hP hD hS hA (by simp only [List.cons_append, List.append_assoc, List.nil_append, List.append_nil]) (by simp only [List.cons_append, List.append_assoc, List.nil_append, List.append_nil]) rfl rfl rfl hl.1 rfl (Nat.le_of_ble_eq_true rfl) dX5_obey_14 ⟨Nat.zero_le _, Nat.zero_le _⟩ (fun H locs hP hD hS => ?_)
  refine lv_istore_n (lv' := [(3, .int r2), (2, .int r1), (0, .ref g0), (1, .int v)]) (pc := 17) hx hb dX5_obey_17 rfl hl (by decide) rfl (fun ls hl => ?_)
  refine lv_aload_n (pc := 18) hx hb dX5_obey_18 rfl (lv_at hl 2 rfl) ?_
  refine g_get (v := .ref (t 0)) (pc := 19) hx hb hts ii_X5_obey_X5 hown hK.1 hP 0 rfl rfl 2 (by decide) ⟨rfl, rfl, rfl⟩ mm_X5_obey_1 rfl dX5_obey_19 ?_
  refine lv_iload_n (pc := 22) hx hb dX5_obey_22 rfl (lv_at hl 3 rfl) ?_
  obtain ⟨r3, er3⟩ : ∃ z : Int32, fX4_kindOf G.2.2.2.2.2 v = z := ⟨_, rfl⟩
  have hr3 := kX4_kindOf l E t G.2.2.2.2.2 v ho
  rw [er3] at hr3
  refine gcVi (pc := 23) (w1 := ((g0, .inr (5, [.ref (b 0), .ref u0, .ref (t 0), .int (G.1 0), .int (G.1 1), .int (G.1 2)])) :: ((wB E b G.2.1) ++ ((u0, .inr (3, [.ref u1, .int (nI G.2.2.1), .int G.2.2.2.1])) :: ((u1, .inl (eO E, 6, .inr (.inr (.inr (.inr (fun k => some (rr k 0))))))) :: ((wRg E rr G.2.2.2.2.1) ++ (wT E t G.2.2.2.2.2))))))) (pre := ((g0, .inr (5, [.ref (b 0), .ref u0, .ref (t 0), .int (G.1 0), .int (G.1 1), .int (G.1 2)])) :: ((wB E b G.2.1) ++ ((u0, .inr (3, [.ref u1, .int (nI G.2.2.1), .int G.2.2.2.1])) :: ((u1, .inl (eO E, 6, .inr (.inr (.inr (.inr (fun k => some (rr k 0))))))) :: (wRg E rr G.2.2.2.2.1)))))) (post := []) (As := [.int v]) (rest := []) (q0 := 0) ⟨hx, hb, hml, hown, hts⟩ hr3 (cwV 1 hts gX5_obey_X4_kindOf rfl rfl rfl qvX4_kindOf ⟨Nat.le_of_ble_eq_true rfl, Nat.le_of_ble_eq_true rfl⟩) hK hP hD hS hA (by simp only [List.cons_append, List.append_assoc, List.nil_append, List.append_nil]) (by simp only [List.cons_append, List.append_assoc, List.nil_append, List.append_nil]) rfl rfl rfl hl.1 rfl (Nat.le_of_ble_eq_true rfl) dX5_obey_23 ⟨Nat.zero_le _, Nat.zero_le _⟩ (fun H locs hP hD hS => ?_)
  by_cases c_4 : r3 = 99
  · refine lv_tableIn (tgt := 151) (pc := 26) hx hb dX5_obey_26 (by rw [c_4]; decide) (by rw [c_4]; decide) (by rw [c_4] <;> rfl) (by decide) ?_
    refine lv_aload_n (pc := 151) hx hb dX5_obey_151 rfl (lv_at hl 2 rfl) ?_
    refine g_get (v := .ref (b 0)) (pc := 152) hx hb hts ii_X5_obey_X5 hown hK.1 hP 0 rfl rfl 0 (by decide) ⟨rfl, rfl, rfl⟩ mm_X5_obey_2 rfl dX5_obey_152 ?_
    refine lv_iload_n (pc := 155) hx hb dX5_obey_155 rfl (lv_at hl 1 rfl) ?_
    refine lv_iload_n (pc := 156) hx hb dX5_obey_156 rfl (lv_at hl 0 rfl) ?_
    obtain ⟨r5, er5⟩ : ∃ z : Int32 × (Bat), fX1_putPoint G.2.1 r1 r2 = z := ⟨_, rfl⟩
    have hr5 := kX1_putPoint l E b G.2.1 r1 r2
    rw [er5] at hr5
    refine gcVi (pc := 157) (w1 := ((g0, .inr (5, [.ref (b 0), .ref u0, .ref (t 0), .int (G.1 0), .int (G.1 1), .int (G.1 2)])) :: ((wB E b r5.2) ++ ((u0, .inr (3, [.ref u1, .int (nI G.2.2.1), .int G.2.2.2.1])) :: ((u1, .inl (eO E, 6, .inr (.inr (.inr (.inr (fun k => some (rr k 0))))))) :: ((wRg E rr G.2.2.2.2.1) ++ (wT E t G.2.2.2.2.2))))))) (pre := [(g0, .inr (5, [.ref (b 0), .ref u0, .ref (t 0), .int (G.1 0), .int (G.1 1), .int (G.1 2)]))]) (post := ((u0, .inr (3, [.ref u1, .int (nI G.2.2.1), .int G.2.2.2.1])) :: ((u1, .inl (eO E, 6, .inr (.inr (.inr (.inr (fun k => some (rr k 0))))))) :: ((wRg E rr G.2.2.2.2.1) ++ (wT E t G.2.2.2.2.2))))) (As := [.int r1, .int r2]) (rest := []) (q0 := 0) ⟨hx, hb, hml, hown, hts⟩ hr5 (cwV 2 hts gX5_obey_X1_putPoint rfl rfl rfl qvX1_putPoint ⟨Nat.le_of_ble_eq_true rfl, Nat.le_of_ble_eq_true rfl⟩) hK hP hD hS hA (by simp only [List.cons_append, List.append_assoc, List.nil_append, List.append_nil]) (by simp only [List.cons_append, List.append_assoc, List.nil_append, List.append_nil]) rfl rfl rfl hl.1 rfl (Nat.le_of_ble_eq_true rfl) dX5_obey_157 ⟨Nat.zero_le _, Nat.zero_le _⟩ (fun H locs hP hD hS => ?_)
    have hfn : fX5_obey G v = (r5.1, (G.1, r5.2, G.2.2.1, G.2.2.2.1, G.2.2.2.2.1, G.2.2.2.2.2)) := by
      subst er5
      subst er3
      subst er2
      subst er1
      exact if_pos c_4
    rw [hfn] at hQ
    exact hQ _ _ _ _ _ rfl hP hD hS dX5_obey_160
  by_cases c_6 : r3 = 103
  · refine lv_tableIn (tgt := 142) (pc := 26) hx hb dX5_obey_26 (by rw [c_6]; decide) (by rw [c_6]; decide) (by rw [c_6] <;> rfl) (by decide) ?_
    refine lv_aload_n (pc := 142) hx hb dX5_obey_142 rfl (lv_at hl 2 rfl) ?_
    refine g_get (v := .ref (b 0)) (pc := 143) hx hb hts ii_X5_obey_X5 hown hK.1 hP 0 rfl rfl 0 (by decide) ⟨rfl, rfl, rfl⟩ mm_X5_obey_2 rfl dX5_obey_143 ?_
    refine lv_iload_n (pc := 146) hx hb dX5_obey_146 rfl (lv_at hl 1 rfl) ?_
    obtain ⟨r7, er7⟩ : ∃ z : Int32 × (Bat), fX1_putCling G.2.1 r1 = z := ⟨_, rfl⟩
    have hr7 := kX1_putCling l E b G.2.1 r1
    rw [er7] at hr7
    refine gcVi (pc := 147) (w1 := ((g0, .inr (5, [.ref (b 0), .ref u0, .ref (t 0), .int (G.1 0), .int (G.1 1), .int (G.1 2)])) :: ((wB E b r7.2) ++ ((u0, .inr (3, [.ref u1, .int (nI G.2.2.1), .int G.2.2.2.1])) :: ((u1, .inl (eO E, 6, .inr (.inr (.inr (.inr (fun k => some (rr k 0))))))) :: ((wRg E rr G.2.2.2.2.1) ++ (wT E t G.2.2.2.2.2))))))) (pre := [(g0, .inr (5, [.ref (b 0), .ref u0, .ref (t 0), .int (G.1 0), .int (G.1 1), .int (G.1 2)]))]) (post := ((u0, .inr (3, [.ref u1, .int (nI G.2.2.1), .int G.2.2.2.1])) :: ((u1, .inl (eO E, 6, .inr (.inr (.inr (.inr (fun k => some (rr k 0))))))) :: ((wRg E rr G.2.2.2.2.1) ++ (wT E t G.2.2.2.2.2))))) (As := [.int r1]) (rest := []) (q0 := 0) ⟨hx, hb, hml, hown, hts⟩ hr7 (cwV 1 hts gX5_obey_X1_putCling rfl rfl rfl qvX1_putCling ⟨Nat.le_of_ble_eq_true rfl, Nat.le_of_ble_eq_true rfl⟩) hK hP hD hS hA (by simp only [List.cons_append, List.append_assoc, List.nil_append, List.append_nil]) (by simp only [List.cons_append, List.append_assoc, List.nil_append, List.append_nil]) rfl rfl rfl hl.1 rfl (Nat.le_of_ble_eq_true rfl) dX5_obey_147 ⟨Nat.zero_le _, Nat.zero_le _⟩ (fun H locs hP hD hS => ?_)
    have hfn : fX5_obey G v = (r7.1, (G.1, r7.2, G.2.2.1, G.2.2.2.1, G.2.2.2.2.1, G.2.2.2.2.2)) := by
      subst er7
      subst er3
      subst er2
      subst er1
      exact (if_neg c_4).trans (if_pos c_6)
    rw [hfn] at hQ
    exact hQ _ _ _ _ _ rfl hP hD hS dX5_obey_150
  by_cases c_8 : r3 = 108
  · refine lv_tableIn (tgt := 123) (pc := 26) hx hb dX5_obey_26 (by rw [c_8]; decide) (by rw [c_8]; decide) (by rw [c_8] <;> rfl) (by decide) ?_
    refine lv_aload_n (pc := 123) hx hb dX5_obey_123 rfl (lv_at hl 2 rfl) ?_
    refine g_get (v := .ref (b 0)) (pc := 124) hx hb hts ii_X5_obey_X5 hown hK.1 hP 0 rfl rfl 0 (by decide) ⟨rfl, rfl, rfl⟩ mm_X5_obey_2 rfl dX5_obey_124 ?_
    refine lv_iload_n (pc := 127) hx hb dX5_obey_127 rfl (lv_at hl 1 rfl) ?_
    refine lv_iload_n (pc := 128) hx hb dX5_obey_128 rfl (lv_at hl 0 rfl) ?_
    obtain ⟨r9, er9⟩ : ∃ z : Int32 × (Bat), fX1_load G.2.1 r1 r2 = z := ⟨_, rfl⟩
    have hr9 := kX1_load l E b G.2.1 r1 r2
    rw [er9] at hr9
    refine gcVi (pc := 129) (w1 := ((g0, .inr (5, [.ref (b 0), .ref u0, .ref (t 0), .int (G.1 0), .int (G.1 1), .int (G.1 2)])) :: ((wB E b r9.2) ++ ((u0, .inr (3, [.ref u1, .int (nI G.2.2.1), .int G.2.2.2.1])) :: ((u1, .inl (eO E, 6, .inr (.inr (.inr (.inr (fun k => some (rr k 0))))))) :: ((wRg E rr G.2.2.2.2.1) ++ (wT E t G.2.2.2.2.2))))))) (pre := [(g0, .inr (5, [.ref (b 0), .ref u0, .ref (t 0), .int (G.1 0), .int (G.1 1), .int (G.1 2)]))]) (post := ((u0, .inr (3, [.ref u1, .int (nI G.2.2.1), .int G.2.2.2.1])) :: ((u1, .inl (eO E, 6, .inr (.inr (.inr (.inr (fun k => some (rr k 0))))))) :: ((wRg E rr G.2.2.2.2.1) ++ (wT E t G.2.2.2.2.2))))) (As := [.int r1, .int r2]) (rest := []) (q0 := 0) ⟨hx, hb, hml, hown, hts⟩ hr9 (cwV 2 hts gX5_obey_X1_load rfl rfl rfl qvX1_load ⟨Nat.le_of_ble_eq_true rfl, Nat.le_of_ble_eq_true rfl⟩) hK hP hD hS hA (by simp only [List.cons_append, List.append_assoc, List.nil_append, List.append_nil]) (by simp only [List.cons_append, List.append_assoc, List.nil_append, List.append_nil]) rfl rfl rfl hl.1 rfl (Nat.le_of_ble_eq_true rfl) dX5_obey_129 ⟨Nat.zero_le _, Nat.zero_le _⟩ (fun H locs hP hD hS => ?_)
    have hfn : fX5_obey G v = (r9.1, (G.1, r9.2, G.2.2.1, G.2.2.2.1, G.2.2.2.2.1, G.2.2.2.2.2)) := by
      subst er9
      subst er3
      subst er2
      subst er1
      exact (if_neg c_4).trans ((if_neg c_6).trans (if_pos c_8))
    rw [hfn] at hQ
    exact hQ _ _ _ _ _ rfl hP hD hS dX5_obey_132
  by_cases c_10 : r3 = 111
  · refine lv_tableIn (tgt := 133) (pc := 26) hx hb dX5_obey_26 (by rw [c_10]; decide) (by rw [c_10]; decide) (by rw [c_10] <;> rfl) (by decide) ?_
    refine lv_aload_n (pc := 133) hx hb dX5_obey_133 rfl (lv_at hl 2 rfl) ?_
    refine g_get (v := .ref (b 0)) (pc := 134) hx hb hts ii_X5_obey_X5 hown hK.1 hP 0 rfl rfl 0 (by decide) ⟨rfl, rfl, rfl⟩ mm_X5_obey_2 rfl dX5_obey_134 ?_
    refine lv_iload_n (pc := 137) hx hb dX5_obey_137 rfl (lv_at hl 1 rfl) ?_
    obtain ⟨r11, er11⟩ : ∃ z : Int32 × (Bat), fX1_putOffset G.2.1 r1 = z := ⟨_, rfl⟩
    have hr11 := kX1_putOffset l E b G.2.1 r1
    rw [er11] at hr11
    refine gcVi (pc := 138) (w1 := ((g0, .inr (5, [.ref (b 0), .ref u0, .ref (t 0), .int (G.1 0), .int (G.1 1), .int (G.1 2)])) :: ((wB E b r11.2) ++ ((u0, .inr (3, [.ref u1, .int (nI G.2.2.1), .int G.2.2.2.1])) :: ((u1, .inl (eO E, 6, .inr (.inr (.inr (.inr (fun k => some (rr k 0))))))) :: ((wRg E rr G.2.2.2.2.1) ++ (wT E t G.2.2.2.2.2))))))) (pre := [(g0, .inr (5, [.ref (b 0), .ref u0, .ref (t 0), .int (G.1 0), .int (G.1 1), .int (G.1 2)]))]) (post := ((u0, .inr (3, [.ref u1, .int (nI G.2.2.1), .int G.2.2.2.1])) :: ((u1, .inl (eO E, 6, .inr (.inr (.inr (.inr (fun k => some (rr k 0))))))) :: ((wRg E rr G.2.2.2.2.1) ++ (wT E t G.2.2.2.2.2))))) (As := [.int r1]) (rest := []) (q0 := 0) ⟨hx, hb, hml, hown, hts⟩ hr11 (cwV 1 hts gX5_obey_X1_putOffset rfl rfl rfl qvX1_putOffset ⟨Nat.le_of_ble_eq_true rfl, Nat.le_of_ble_eq_true rfl⟩) hK hP hD hS hA (by simp only [List.cons_append, List.append_assoc, List.nil_append, List.append_nil]) (by simp only [List.cons_append, List.append_assoc, List.nil_append, List.append_nil]) rfl rfl rfl hl.1 rfl (Nat.le_of_ble_eq_true rfl) dX5_obey_138 ⟨Nat.zero_le _, Nat.zero_le _⟩ (fun H locs hP hD hS => ?_)
    have hfn : fX5_obey G v = (r11.1, (G.1, r11.2, G.2.2.1, G.2.2.2.1, G.2.2.2.2.1, G.2.2.2.2.2)) := by
      subst er11
      subst er3
      subst er2
      subst er1
      exact (if_neg c_4).trans ((if_neg c_6).trans ((if_neg c_8).trans (if_pos c_10)))
    rw [hfn] at hQ
    exact hQ _ _ _ _ _ rfl hP hD hS dX5_obey_141
  by_cases c_12 : r3 = 112
  · refine lv_tableIn (tgt := 104) (pc := 26) hx hb dX5_obey_26 (by rw [c_12]; decide) (by rw [c_12]; decide) (by rw [c_12] <;> rfl) (by decide) ?_
    refine lv_aload_n (pc := 104) hx hb dX5_obey_104 rfl (lv_at hl 2 rfl) ?_
    refine g_get (v := .ref (b 0)) (pc := 105) hx hb hts ii_X5_obey_X5 hown hK.1 hP 0 rfl rfl 0 (by decide) ⟨rfl, rfl, rfl⟩ mm_X5_obey_2 rfl dX5_obey_105 ?_
    refine lv_iload_n (pc := 108) hx hb dX5_obey_108 rfl (lv_at hl 1 rfl) ?_
    refine lv_iload_n (pc := 109) hx hb dX5_obey_109 rfl (lv_at hl 0 rfl) ?_
    obtain ⟨r13, er13⟩ : ∃ z : Int32 × (Bat), fX1_pass G.2.1 r1 r2 = z := ⟨_, rfl⟩
    have hr13 := kX1_pass l E b G.2.1 r1 r2
    rw [er13] at hr13
    refine gcVi (pc := 110) (w1 := ((g0, .inr (5, [.ref (b 0), .ref u0, .ref (t 0), .int (G.1 0), .int (G.1 1), .int (G.1 2)])) :: ((wB E b r13.2) ++ ((u0, .inr (3, [.ref u1, .int (nI G.2.2.1), .int G.2.2.2.1])) :: ((u1, .inl (eO E, 6, .inr (.inr (.inr (.inr (fun k => some (rr k 0))))))) :: ((wRg E rr G.2.2.2.2.1) ++ (wT E t G.2.2.2.2.2))))))) (pre := [(g0, .inr (5, [.ref (b 0), .ref u0, .ref (t 0), .int (G.1 0), .int (G.1 1), .int (G.1 2)]))]) (post := ((u0, .inr (3, [.ref u1, .int (nI G.2.2.1), .int G.2.2.2.1])) :: ((u1, .inl (eO E, 6, .inr (.inr (.inr (.inr (fun k => some (rr k 0))))))) :: ((wRg E rr G.2.2.2.2.1) ++ (wT E t G.2.2.2.2.2))))) (As := [.int r1, .int r2]) (rest := []) (q0 := 0) ⟨hx, hb, hml, hown, hts⟩ hr13 (cwV 2 hts gX5_obey_X1_pass rfl rfl rfl qvX1_pass ⟨Nat.le_of_ble_eq_true rfl, Nat.le_of_ble_eq_true rfl⟩) hK hP hD hS hA (by simp only [List.cons_append, List.append_assoc, List.nil_append, List.append_nil]) (by simp only [List.cons_append, List.append_assoc, List.nil_append, List.append_nil]) rfl rfl rfl hl.1 rfl (Nat.le_of_ble_eq_true rfl) dX5_obey_110 ⟨Nat.zero_le _, Nat.zero_le _⟩ (fun H locs hP hD hS => ?_)
    have hfn : fX5_obey G v = (r13.1, (G.1, r13.2, G.2.2.1, G.2.2.2.1, G.2.2.2.2.1, G.2.2.2.2.2)) := by
      subst er13
      subst er3
      subst er2
      subst er1
      exact (if_neg c_4).trans ((if_neg c_6).trans ((if_neg c_8).trans ((if_neg c_10).trans (if_pos c_12))))
    rw [hfn] at hQ
    exact hQ _ _ _ _ _ rfl hP hD hS dX5_obey_113
  by_cases c_14 : r3 = 114
  · refine lv_tableIn (tgt := 114) (pc := 26) hx hb dX5_obey_26 (by rw [c_14]; decide) (by rw [c_14]; decide) (by rw [c_14] <;> rfl) (by decide) ?_
    refine lv_aload_n (pc := 114) hx hb dX5_obey_114 rfl (lv_at hl 2 rfl) ?_
    refine g_get (v := .ref (b 0)) (pc := 115) hx hb hts ii_X5_obey_X5 hown hK.1 hP 0 rfl rfl 0 (by decide) ⟨rfl, rfl, rfl⟩ mm_X5_obey_2 rfl dX5_obey_115 ?_
    refine lv_iload_n (pc := 118) hx hb dX5_obey_118 rfl (lv_at hl 1 rfl) ?_
    obtain ⟨r15, er15⟩ : ∃ z : Int32 × (Bat), fX1_rest G.2.1 r1 = z := ⟨_, rfl⟩
    have hr15 := kX1_rest l E b G.2.1 r1
    rw [er15] at hr15
    refine gcVi (pc := 119) (w1 := ((g0, .inr (5, [.ref (b 0), .ref u0, .ref (t 0), .int (G.1 0), .int (G.1 1), .int (G.1 2)])) :: ((wB E b r15.2) ++ ((u0, .inr (3, [.ref u1, .int (nI G.2.2.1), .int G.2.2.2.1])) :: ((u1, .inl (eO E, 6, .inr (.inr (.inr (.inr (fun k => some (rr k 0))))))) :: ((wRg E rr G.2.2.2.2.1) ++ (wT E t G.2.2.2.2.2))))))) (pre := [(g0, .inr (5, [.ref (b 0), .ref u0, .ref (t 0), .int (G.1 0), .int (G.1 1), .int (G.1 2)]))]) (post := ((u0, .inr (3, [.ref u1, .int (nI G.2.2.1), .int G.2.2.2.1])) :: ((u1, .inl (eO E, 6, .inr (.inr (.inr (.inr (fun k => some (rr k 0))))))) :: ((wRg E rr G.2.2.2.2.1) ++ (wT E t G.2.2.2.2.2))))) (As := [.int r1]) (rest := []) (q0 := 0) ⟨hx, hb, hml, hown, hts⟩ hr15 (cwV 1 hts gX5_obey_X1_rest rfl rfl rfl qvX1_rest ⟨Nat.le_of_ble_eq_true rfl, Nat.le_of_ble_eq_true rfl⟩) hK hP hD hS hA (by simp only [List.cons_append, List.append_assoc, List.nil_append, List.append_nil]) (by simp only [List.cons_append, List.append_assoc, List.nil_append, List.append_nil]) rfl rfl rfl hl.1 rfl (Nat.le_of_ble_eq_true rfl) dX5_obey_119 ⟨Nat.zero_le _, Nat.zero_le _⟩ (fun H locs hP hD hS => ?_)
    have hfn : fX5_obey G v = (r15.1, (G.1, r15.2, G.2.2.1, G.2.2.2.1, G.2.2.2.2.1, G.2.2.2.2.2)) := by
      subst er15
      subst er3
      subst er2
      subst er1
      exact (if_neg c_4).trans ((if_neg c_6).trans ((if_neg c_8).trans ((if_neg c_10).trans ((if_neg c_12).trans (if_pos c_14)))))
    rw [hfn] at hQ
    exact hQ _ _ _ _ _ rfl hP hD hS dX5_obey_122
  have tc_4 : ¬ r3.toInt = 99 := fun h => c_4 (Int32.toInt_inj.mp (h.trans (by decide)))
  have tc_6 : ¬ r3.toInt = 103 := fun h => c_6 (Int32.toInt_inj.mp (h.trans (by decide)))
  have tc_8 : ¬ r3.toInt = 108 := fun h => c_8 (Int32.toInt_inj.mp (h.trans (by decide)))
  have tc_10 : ¬ r3.toInt = 111 := fun h => c_10 (Int32.toInt_inj.mp (h.trans (by decide)))
  have tc_12 : ¬ r3.toInt = 112 := fun h => c_12 (Int32.toInt_inj.mp (h.trans (by decide)))
  have tc_14 : ¬ r3.toInt = 114 := fun h => c_14 (Int32.toInt_inj.mp (h.trans (by decide)))
  have D_16 : W p l e rX5_obey s m args below meth c H locs 0 0 Q (F0 m 161 ls []) := by
    refine lv_ldc (v := (-10000002)) (pc := 161) hx hb hown (hts _ mm_X5_obey_3) dX5_obey_161 ?_
    have hfn : fX5_obey G v = ((-10000002), G) := by
      subst er3
      subst er2
      subst er1
      exact (if_neg c_4).trans ((if_neg c_6).trans ((if_neg c_8).trans ((if_neg c_10).trans ((if_neg c_12).trans (if_neg c_14)))))
    rw [hfn] at hQ
    exact hQ _ _ _ _ _ rfl hP hD hS dX5_obey_163
  rcases (show r3.toInt < 99 ∨ 114 < r3.toInt ∨ r3.toInt = 100 ∨ r3.toInt = 101 ∨ r3.toInt = 102 ∨ r3.toInt = 104 ∨ r3.toInt = 105 ∨ r3.toInt = 106 ∨ r3.toInt = 107 ∨ r3.toInt = 109 ∨ r3.toInt = 110 ∨ r3.toInt = 113 by omega) with h | h | h | h | h | h | h | h | h | h | h | h
  · exact lv_tableOut (tgt := 161) (pc := 26) hx hb dX5_obey_26 (Or.inl h) (by decide) D_16
  · exact lv_tableOut (tgt := 161) (pc := 26) hx hb dX5_obey_26 (Or.inr h) (by decide) D_16
  · exact lv_tableIn (tgt := 161) (pc := 26) hx hb dX5_obey_26 (by rw [h]; decide) (by rw [h]; decide) (by rw [h] <;> rfl) (by decide) D_16
  · exact lv_tableIn (tgt := 161) (pc := 26) hx hb dX5_obey_26 (by rw [h]; decide) (by rw [h]; decide) (by rw [h] <;> rfl) (by decide) D_16
  · exact lv_tableIn (tgt := 161) (pc := 26) hx hb dX5_obey_26 (by rw [h]; decide) (by rw [h]; decide) (by rw [h] <;> rfl) (by decide) D_16
  · exact lv_tableIn (tgt := 161) (pc := 26) hx hb dX5_obey_26 (by rw [h]; decide) (by rw [h]; decide) (by rw [h] <;> rfl) (by decide) D_16
  · exact lv_tableIn (tgt := 161) (pc := 26) hx hb dX5_obey_26 (by rw [h]; decide) (by rw [h]; decide) (by rw [h] <;> rfl) (by decide) D_16
  · exact lv_tableIn (tgt := 161) (pc := 26) hx hb dX5_obey_26 (by rw [h]; decide) (by rw [h]; decide) (by rw [h] <;> rfl) (by decide) D_16
  · exact lv_tableIn (tgt := 161) (pc := 26) hx hb dX5_obey_26 (by rw [h]; decide) (by rw [h]; decide) (by rw [h] <;> rfl) (by decide) D_16
  · exact lv_tableIn (tgt := 161) (pc := 26) hx hb dX5_obey_26 (by rw [h]; decide) (by rw [h]; decide) (by rw [h] <;> rfl) (by decide) D_16
  · exact lv_tableIn (tgt := 161) (pc := 26) hx hb dX5_obey_26 (by rw [h]; decide) (by rw [h]; decide) (by rw [h] <;> rfl) (by decide) D_16
  · exact lv_tableIn (tgt := 161) (pc := 26) hx hb dX5_obey_26 (by rw [h]; decide) (by rw [h]; decide) (by rw [h] <;> rfl) (by decide) D_16
