/-! the class's face -/
def fX5_counted (G : GS) (v : Int32) : Int32 × (GS) :=
  if v = (-10000002) then
    let x6 : Int32 := (G.1 0) + 1
    (v, ((upd G.1 0 x6), G.2.1, G.2.2.1, G.2.2.2.1, G.2.2.2.2.1, G.2.2.2.2.2))
  else
    if v = (-10000003) then
      let x5 : Int32 := (G.1 1) + 1
      (v, ((upd G.1 1 x5), G.2.1, G.2.2.1, G.2.2.2.1, G.2.2.2.2.1, G.2.2.2.2.2))
    else
      if v = (-10000004) then
        let x4 : Int32 := (G.1 2) + 1
        (v, ((upd G.1 2 x4), G.2.1, G.2.2.1, G.2.2.2.1, G.2.2.2.2.1, G.2.2.2.2.2))
      else
        (v, G)
abbrev rX5_counted : Room := { frames := 0, cells := 0, slots := 0, locals := 0 }
theorem mm_X5_counted_1 : Cond.constant RX5 67 (-10000002) ∈ wsX5_counted := List.mem_of_getElem? (i := 1) rfl
theorem mm_X5_counted_3 : Cond.constant RX5 129 (-10000003) ∈ wsX5_counted := List.mem_of_getElem? (i := 3) rfl
theorem mm_X5_counted_5 : Cond.constant RX5 170 (-10000004) ∈ wsX5_counted := List.mem_of_getElem? (i := 5) rfl
theorem mm_X5_counted_6 : Cond.fieldLink RX5 140 "GaugeBounds" "timesFull" "I" ∈ wsX5_counted := List.mem_of_getElem? (i := 6) rfl
theorem mm_X5_counted_4 : Cond.fieldLink RX5 137 "GaugeBounds" "timesNo" "I" ∈ wsX5_counted := List.mem_of_getElem? (i := 4) rfl
theorem mm_X5_counted_2 : Cond.fieldLink RX5 133 "GaugeBounds" "timesBad" "I" ∈ wsX5_counted := List.mem_of_getElem? (i := 2) rfl
theorem ii_X5_counted_X5 : ∀ w ∈ wsX50, w ∈ wsX5_counted := fun _ h => List.mem_cons_of_mem _ (List.mem_append_right _ (h))
theorem qvX5_counted : yX5_counted.cls = RX5 ∧ yX5_counted.cls ≠ "java/lang/invoke/MethodHandle" ∧ yX5_counted.cls ≠ "java/lang/invoke/VarHandle" ∧ (parseMethodDescriptor yX5_counted.desc).map (fun d => d.parameters.length) = some 1 := by decide +kernel
set_option maxHeartbeats 4000000 in
set_option maxRecDepth 100000 in
theorem kX5_counted (l : Launch) (E : gEnv) (g0 : Nat) (b : Nat → Nat) (u0 u1 : Nat) (rr : Nat → Nat → Nat) (t : Nat → Nat) (G : GS) (v : Int32) : gMi l E yX5_counted wsX5_counted rX5_counted [.ref g0, .int v] (wG E g0 b u0 u1 rr t G) (fX5_counted G v).1 (wG E g0 b u0 u1 rr t ((fX5_counted G v).2)) := by
  refine gMi_of (cc := cX5_counted) (maxL := 2) (ret := (some .int)) (by decide) rfl rfl (Nat.le_of_ble_eq_true rfl) ?_
  intro p e s m args below meth c A Q ls hB hQ
  obtain ⟨hx, hb, hml, hown, hts, hK, hP, hD, hA, hS, hl⟩ := hB
  have hown : s.vm.findClass RX5 = some m.cls := hown
  have hP : va_P E.1 vwCl ((g0, .inr (5, [.ref (b 0), .ref u0, .ref (t 0), .int (G.1 0), .int (G.1 1), .int (G.1 2)])) :: ((wB E b G.2.1) ++ ((u0, .inr (3, [.ref u1, .int (nI G.2.2.1), .int G.2.2.2.1])) :: ((u1, .inl (eO E, 6, .inr (.inr (.inr (.inr (fun k => some (rr k 0))))))) :: ((wRg E rr G.2.2.2.2.1) ++ (wT E t G.2.2.2.2.2)))))) s.heap := hP
  have hD : va_D A ((g0, .inr (5, [.ref (b 0), .ref u0, .ref (t 0), .int (G.1 0), .int (G.1 1), .int (G.1 2)])) :: ((wB E b G.2.1) ++ ((u0, .inr (3, [.ref u1, .int (nI G.2.2.1), .int G.2.2.2.1])) :: ((u1, .inl (eO E, 6, .inr (.inr (.inr (.inr (fun k => some (rr k 0))))))) :: ((wRg E rr G.2.2.2.2.1) ++ (wT E t G.2.2.2.2.2)))))) := hD
  have hl : lv_has ls 2 [(0, .ref g0), (1, .int v)] := hl
  refine lv_iload_n (pc := 0) hx hb dX5_counted_0 rfl (lv_at hl 1 rfl) ?_
  refine lv_ldc (v := (-10000002)) (pc := 1) hx hb hown (hts _ mm_X5_counted_1) dX5_counted_1 ?_
  refine lv_icmp_ne (tgt := 19) (pc := 3) hx hb dX5_counted_3 (by decide) (fun c_1 => ?_) (fun c_1 => ?_)
  · refine lv_iload_n (pc := 19) hx hb dX5_counted_19 rfl (lv_at hl 1 rfl) ?_
    refine lv_ldc (v := (-10000003)) (pc := 20) hx hb hown (hts _ mm_X5_counted_3) dX5_counted_20 ?_
    refine lv_icmp_ne (tgt := 38) (pc := 22) hx hb dX5_counted_22 (by decide) (fun c_2 => ?_) (fun c_2 => ?_)
    · refine lv_iload_n (pc := 38) hx hb dX5_counted_38 rfl (lv_at hl 1 rfl) ?_
      refine lv_ldc (v := (-10000004)) (pc := 39) hx hb hown (hts _ mm_X5_counted_5) dX5_counted_39 ?_
      refine lv_icmp_ne (tgt := 54) (pc := 41) hx hb dX5_counted_41 (by decide) (fun c_3 => ?_) (fun c_3 => ?_)
      · refine lv_iload_n (pc := 54) hx hb dX5_counted_54 rfl (lv_at hl 1 rfl) ?_
        have hfn : fX5_counted G v = (v, G) := by
          exact (if_neg c_1).trans ((if_neg c_2).trans (if_neg c_3))
        rw [hfn] at hQ
        exact hQ _ _ _ _ _ rfl hP hD hS dX5_counted_55
      · refine lv_aload_n (pc := 44) hx hb dX5_counted_44 rfl (lv_at hl 0 rfl) ?_
        refine lv_dup (pc := 45) hx hb dX5_counted_45 rfl ?_
        refine g_get (v := .int (G.1 2)) (pc := 46) hx hb hts ii_X5_counted_X5 hown hK.1 hP 0 rfl rfl 5 (by decide) ⟨rfl, rfl, rfl⟩ mm_X5_counted_6 rfl dX5_counted_46 ?_
        refine lv_iconst (v := 1) (pc := 49) hx hb dX5_counted_49 rfl ?_
        refine lv_iadd (pc := 50) hx hb dX5_counted_50 ?_
        refine g_topi (fun x4 ex4 => ?_)
        refine g_put (w1 := ((g0, .inr (5, [.ref (b 0), .ref u0, .ref (t 0), .int (G.1 0), .int (G.1 1), .int x4])) :: ((wB E b G.2.1) ++ ((u0, .inr (3, [.ref u1, .int (nI G.2.2.1), .int G.2.2.2.1])) :: ((u1, .inl (eO E, 6, .inr (.inr (.inr (.inr (fun k => some (rr k 0))))))) :: ((wRg E rr G.2.2.2.2.1) ++ (wT E t G.2.2.2.2.2))))))) (pc := 51) hx hb hts ii_X5_counted_X5 tyX5 tyX5_ok nmX5 hown hK.1 hP hD hS 0 rfl rfl 5 (by decide) ⟨rfl, rfl, rfl⟩ mm_X5_counted_6 rfl rfl rfl rfl (Nat.le_of_ble_eq_true rfl) rfl dX5_counted_51 (fun H locs hP hD hS => ?_)
        refine lv_iload_n (pc := 54) hx hb dX5_counted_54 rfl (lv_at hl 1 rfl) ?_
        have hfn : fX5_counted G v = (v, ((upd G.1 2 x4), G.2.1, G.2.2.1, G.2.2.2.1, G.2.2.2.2.1, G.2.2.2.2.2)) := by
          subst ex4
          exact (if_neg c_1).trans ((if_neg c_2).trans (if_pos c_3))
        rw [hfn] at hQ
        exact hQ _ _ _ _ _ rfl hP hD hS dX5_counted_55
    · refine lv_aload_n (pc := 25) hx hb dX5_counted_25 rfl (lv_at hl 0 rfl) ?_
      refine lv_dup (pc := 26) hx hb dX5_counted_26 rfl ?_
      refine g_get (v := .int (G.1 1)) (pc := 27) hx hb hts ii_X5_counted_X5 hown hK.1 hP 0 rfl rfl 4 (by decide) ⟨rfl, rfl, rfl⟩ mm_X5_counted_4 rfl dX5_counted_27 ?_
      refine lv_iconst (v := 1) (pc := 30) hx hb dX5_counted_30 rfl ?_
      refine lv_iadd (pc := 31) hx hb dX5_counted_31 ?_
      refine g_topi (fun x5 ex5 => ?_)
      refine g_put (w1 := ((g0, .inr (5, [.ref (b 0), .ref u0, .ref (t 0), .int (G.1 0), .int x5, .int (G.1 2)])) :: ((wB E b G.2.1) ++ ((u0, .inr (3, [.ref u1, .int (nI G.2.2.1), .int G.2.2.2.1])) :: ((u1, .inl (eO E, 6, .inr (.inr (.inr (.inr (fun k => some (rr k 0))))))) :: ((wRg E rr G.2.2.2.2.1) ++ (wT E t G.2.2.2.2.2))))))) (pc := 32) hx hb hts ii_X5_counted_X5 tyX5 tyX5_ok nmX5 hown hK.1 hP hD hS 0 rfl rfl 4 (by decide) ⟨rfl, rfl, rfl⟩ mm_X5_counted_4 rfl rfl rfl rfl (Nat.le_of_ble_eq_true rfl) rfl dX5_counted_32 (fun H locs hP hD hS => ?_)
      refine lv_goto (tgt := 54) (pc := 35) hx hb dX5_counted_35 (by decide) ?_
      refine lv_iload_n (pc := 54) hx hb dX5_counted_54 rfl (lv_at hl 1 rfl) ?_
      have hfn : fX5_counted G v = (v, ((upd G.1 1 x5), G.2.1, G.2.2.1, G.2.2.2.1, G.2.2.2.2.1, G.2.2.2.2.2)) := by
        subst ex5
        exact (if_neg c_1).trans (if_pos c_2)
      rw [hfn] at hQ
      exact hQ _ _ _ _ _ rfl hP hD hS dX5_counted_55
  · refine lv_aload_n (pc := 6) hx hb dX5_counted_6 rfl (lv_at hl 0 rfl) ?_
    refine lv_dup (pc := 7) hx hb dX5_counted_7 rfl ?_
    refine g_get (v := .int (G.1 0)) (pc := 8) hx hb hts ii_X5_counted_X5 hown hK.1 hP 0 rfl rfl 3 (by decide) ⟨rfl, rfl, rfl⟩ mm_X5_counted_2 rfl dX5_counted_8 ?_
    refine lv_iconst (v := 1) (pc := 11) hx hb dX5_counted_11 rfl ?_
    refine lv_iadd (pc := 12) hx hb dX5_counted_12 ?_
    refine g_topi (fun x6 ex6 => ?_)
    refine g_put (w1 := ((g0, .inr (5, [.ref (b 0), .ref u0, .ref (t 0), .int x6, .int (G.1 1), .int (G.1 2)])) :: ((wB E b G.2.1) ++ ((u0, .inr (3, [.ref u1, .int (nI G.2.2.1), .int G.2.2.2.1])) :: ((u1, .inl (eO E, 6, .inr (.inr (.inr (.inr (fun k => some (rr k 0))))))) :: ((wRg E rr G.2.2.2.2.1) ++ (wT E t G.2.2.2.2.2))))))) (pc := 13) hx hb hts ii_X5_counted_X5 tyX5 tyX5_ok nmX5 hown hK.1 hP hD hS 0 rfl rfl 3 (by decide) ⟨rfl, rfl, rfl⟩ mm_X5_counted_2 rfl rfl rfl rfl (Nat.le_of_ble_eq_true rfl) rfl dX5_counted_13 (fun H locs hP hD hS => ?_)
    refine lv_goto (tgt := 54) (pc := 16) hx hb dX5_counted_16 (by decide) ?_
    refine lv_iload_n (pc := 54) hx hb dX5_counted_54 rfl (lv_at hl 1 rfl) ?_
    have hfn : fX5_counted G v = (v, ((upd G.1 0 x6), G.2.1, G.2.2.1, G.2.2.2.1, G.2.2.2.2.1, G.2.2.2.2.2)) := by
      subst ex6
      exact if_pos c_1
    rw [hfn] at hQ
    exact hQ _ _ _ _ _ rfl hP hD hS dX5_counted_55

def fX5_settled (G : GS) (v : Int32) : Int32 × (GS) :=
  let r1 : Int32 := fX5_isRefusal v
  if r1 = 0 then
    let r4 : Nat × Int32 := fX3_keepMarked G.2.2.1 G.2.2.2.1
    let r5 : Int32 × (GS) := fX5_counted (G.1, G.2.1, r4.1, r4.2, G.2.2.2.2.1, G.2.2.2.2.2) v
    r5
  else
    let r3 : Int32 × (GS) := fX5_counted G v
    r3
abbrev rX5_settled : Room := { frames := 2, cells := 0, slots := 0, locals := 34 }
theorem mm_X5_settled_1 : Cond.fieldLink RX5 19 "GaugeBounds" "states" "LGaugeBounds$States;" ∈ wsX5_settled := List.mem_of_getElem? (i := 1) rfl
theorem ii_X5_settled_X5 : ∀ w ∈ wsX50, w ∈ wsX5_settled := fun _ h => List.mem_cons_of_mem _ (List.mem_append_left _ (List.mem_append_right _ (h)))
theorem qvX5_settled : yX5_settled.cls = RX5 ∧ yX5_settled.cls ≠ "java/lang/invoke/MethodHandle" ∧ yX5_settled.cls ≠ "java/lang/invoke/VarHandle" ∧ (parseMethodDescriptor yX5_settled.desc).map (fun d => d.parameters.length) = some 1 := by decide +kernel
set_option maxHeartbeats 4000000 in
set_option maxRecDepth 100000 in
theorem kX5_settled (l : Launch) (E : gEnv) (g0 : Nat) (b : Nat → Nat) (u0 u1 : Nat) (rr : Nat → Nat → Nat) (t : Nat → Nat) (G : GS) (v : Int32) (hj : G.2.2.1 < 6) : gMi l E yX5_settled wsX5_settled rX5_settled [.ref g0, .int v] (wG E g0 b u0 u1 rr t G) (fX5_settled G v).1 (wG E g0 b u0 u1 rr t ((fX5_settled G v).2)) := by
  refine gMi_of (cc := cX5_settled) (maxL := 2) (ret := (some .int)) (by decide) rfl rfl (Nat.le_of_ble_eq_true rfl) ?_
  intro p e s m args below meth c A Q ls hB hQ
  obtain ⟨hx, hb, hml, hown, hts, hK, hP, hD, hA, hS, hl⟩ := hB
  have hown : s.vm.findClass RX5 = some m.cls := hown
  have hP : va_P E.1 vwCl ((g0, .inr (5, [.ref (b 0), .ref u0, .ref (t 0), .int (G.1 0), .int (G.1 1), .int (G.1 2)])) :: ((wB E b G.2.1) ++ ((u0, .inr (3, [.ref u1, .int (nI G.2.2.1), .int G.2.2.2.1])) :: ((u1, .inl (eO E, 6, .inr (.inr (.inr (.inr (fun k => some (rr k 0))))))) :: ((wRg E rr G.2.2.2.2.1) ++ (wT E t G.2.2.2.2.2)))))) s.heap := hP
  have hD : va_D A ((g0, .inr (5, [.ref (b 0), .ref u0, .ref (t 0), .int (G.1 0), .int (G.1 1), .int (G.1 2)])) :: ((wB E b G.2.1) ++ ((u0, .inr (3, [.ref u1, .int (nI G.2.2.1), .int G.2.2.2.1])) :: ((u1, .inl (eO E, 6, .inr (.inr (.inr (.inr (fun k => some (rr k 0))))))) :: ((wRg E rr G.2.2.2.2.1) ++ (wT E t G.2.2.2.2.2)))))) := hD
  have hl : lv_has ls 2 [(0, .ref g0), (1, .int v)] := hl
  refine lv_iload_n (pc := 0) hx hb dX5_settled_0 rfl (lv_at hl 1 rfl) ?_
  obtain ⟨r1, er1⟩ : ∃ z : Int32, fX5_isRefusal v = z := ⟨_, rfl⟩
  have hr1 := kX5_isRefusal l E v
  rw [er1] at hr1
  refine gcSi (pc := 1) (As := [.int v]) (rest := []) ⟨hx, hb, hml, hown, hts⟩ hr1 (cwS 1 hts gX5_settled_X5_isRefusal rfl rfl rfl qsX5_isRefusal ⟨Nat.le_of_ble_eq_true rfl, Nat.le_of_ble_eq_true rfl⟩) hK hP hD hS hA rfl hl.1 rfl (Nat.le_of_ble_eq_true rfl) dX5_settled_1 ⟨Nat.zero_le _, Nat.zero_le _⟩ (fun H locs hP hD hS => ?_)
  refine lv_if_ne (tgt := 14) (pc := 4) hx hb dX5_settled_4 (by decide) (fun c_2 => ?_) (fun c_2 => ?_)
  · refine lv_aload_n (pc := 14) hx hb dX5_settled_14 rfl (lv_at hl 0 rfl) ?_
    refine lv_iload_n (pc := 15) hx hb dX5_settled_15 rfl (lv_at hl 1 rfl) ?_
    obtain ⟨r3, er3⟩ : ∃ z : Int32 × (GS), fX5_counted G v = z := ⟨_, rfl⟩
    have hr3 := kX5_counted l E g0 b u0 u1 rr t G v
    rw [er3] at hr3
    refine gcVi0 (pc := 16) (w1 := ((g0, .inr (5, [.ref (b 0), .ref u0, .ref (t 0), .int (r3.2.1 0), .int (r3.2.1 1), .int (r3.2.1 2)])) :: ((wB E b r3.2.2.1) ++ ((u0, .inr (3, [.ref u1, .int (nI r3.2.2.2.1), .int r3.2.2.2.2.1])) :: ((u1, .inl (eO E, 6, .inr (.inr (.inr (.inr (fun k => some (rr k 0))))))) :: ((wRg E rr r3.2.2.2.2.2.1) ++ (wT E t r3.2.2.2.2.2.2))))))) (As := [.int v]) (rest := []) (q0 := 0) ⟨hx, hb, hml, hown, hts⟩ hr3 (cwV 1 hts gX5_settled_X5_counted rfl rfl rfl qvX5_counted ⟨Nat.le_of_ble_eq_true rfl, Nat.le_of_ble_eq_true rfl⟩) hK hP hD hS hA rfl rfl rfl rfl rfl hl.1 rfl (Nat.le_of_ble_eq_true rfl) dX5_settled_16 ⟨Nat.zero_le _, Nat.zero_le _⟩ (fun H locs hP hD hS => ?_)
    have hfn : fX5_settled G v = r3 := by
      subst er3
      subst er1
      exact if_neg c_2
    rw [hfn] at hQ
    exact hQ _ _ _ _ _ rfl hP hD hS dX5_settled_19
  · refine lv_aload_n (pc := 7) hx hb dX5_settled_7 rfl (lv_at hl 0 rfl) ?_
    refine g_get (v := .ref u0) (pc := 8) hx hb hts ii_X5_settled_X5 hown hK.1 hP 0 rfl rfl 1 (by decide) ⟨rfl, rfl, rfl⟩ mm_X5_settled_1 rfl dX5_settled_8 ?_
    obtain ⟨r4, er4⟩ : ∃ z : Nat × Int32, fX3_keepMarked G.2.2.1 G.2.2.2.1 = z := ⟨_, rfl⟩
    have hr4 := kX3_keepMarked l E u0 u1 G.2.2.1 G.2.2.2.1 hj
    rw [er4] at hr4
    refine gcVv (pc := 11) (w1 := ((g0, .inr (5, [.ref (b 0), .ref u0, .ref (t 0), .int (G.1 0), .int (G.1 1), .int (G.1 2)])) :: ((wB E b G.2.1) ++ ((u0, .inr (3, [.ref u1, .int (nI r4.1), .int r4.2])) :: ((u1, .inl (eO E, 6, .inr (.inr (.inr (.inr (fun k => some (rr k 0))))))) :: ((wRg E rr G.2.2.2.2.1) ++ (wT E t G.2.2.2.2.2))))))) (pre := ((g0, .inr (5, [.ref (b 0), .ref u0, .ref (t 0), .int (G.1 0), .int (G.1 1), .int (G.1 2)])) :: (wB E b G.2.1))) (post := ((u1, .inl (eO E, 6, .inr (.inr (.inr (.inr (fun k => some (rr k 0))))))) :: ((wRg E rr G.2.2.2.2.1) ++ (wT E t G.2.2.2.2.2)))) (As := []) (rest := []) (q0 := 0) ⟨hx, hb, hml, hown, hts⟩ hr4 (cwV 0 hts gX5_settled_X3_keepMarked rfl rfl rfl qvX3_keepMarked ⟨Nat.le_of_ble_eq_true rfl, Nat.le_of_ble_eq_true rfl⟩) hK hP hD hS hA (by simp only [List.cons_append, List.append_assoc, List.nil_append, List.append_nil]) (by simp only [List.cons_append, List.append_assoc, List.nil_append, List.append_nil]) rfl rfl rfl hl.1 rfl (Nat.le_of_ble_eq_true rfl) dX5_settled_11 ⟨Nat.zero_le _, Nat.zero_le _⟩ (fun H locs hP hD hS => ?_)
    refine lv_aload_n (pc := 14) hx hb dX5_settled_14 rfl (lv_at hl 0 rfl) ?_
    refine lv_iload_n (pc := 15) hx hb dX5_settled_15 rfl (lv_at hl 1 rfl) ?_
    obtain ⟨r5, er5⟩ : ∃ z : Int32 × (GS), fX5_counted (G.1, G.2.1, r4.1, r4.2, G.2.2.2.2.1, G.2.2.2.2.2) v = z := ⟨_, rfl⟩
    have hr5 := kX5_counted l E g0 b u0 u1 rr t (G.1, G.2.1, r4.1, r4.2, G.2.2.2.2.1, G.2.2.2.2.2) v
    rw [er5] at hr5
    refine gcVi0 (pc := 16) (w1 := ((g0, .inr (5, [.ref (b 0), .ref u0, .ref (t 0), .int (r5.2.1 0), .int (r5.2.1 1), .int (r5.2.1 2)])) :: ((wB E b r5.2.2.1) ++ ((u0, .inr (3, [.ref u1, .int (nI r5.2.2.2.1), .int r5.2.2.2.2.1])) :: ((u1, .inl (eO E, 6, .inr (.inr (.inr (.inr (fun k => some (rr k 0))))))) :: ((wRg E rr r5.2.2.2.2.2.1) ++ (wT E t r5.2.2.2.2.2.2))))))) (As := [.int v]) (rest := []) (q0 := 0) ⟨hx, hb, hml, hown, hts⟩ hr5 (cwV 1 hts gX5_settled_X5_counted rfl rfl rfl qvX5_counted ⟨Nat.le_of_ble_eq_true rfl, Nat.le_of_ble_eq_true rfl⟩) hK hP hD hS hA rfl rfl rfl rfl rfl hl.1 rfl (Nat.le_of_ble_eq_true rfl) dX5_settled_16 ⟨Nat.zero_le _, Nat.zero_le _⟩ (fun H locs hP hD hS => ?_)
    have hfn : fX5_settled G v = r5 := by
      subst er5
      subst er4
      subst er1
      exact if_pos c_2
    rw [hfn] at hQ
    exact hQ _ _ _ _ _ rfl hP hD hS dX5_settled_19

def fX5_begins (G : GS) (lo : Int32) (up : Int32) : Int32 × (GS) :=
  let r1 : Nat → Bat := fX3_mark G.2.1 G.2.2.1 G.2.2.2.1 G.2.2.2.2.1
  let r2 : Int32 × (Bat) := fX1_begin G.2.1 lo up
  let r3 : Int32 × (GS) := fX5_settled (G.1, r2.2, G.2.2.1, G.2.2.2.1, r1, G.2.2.2.2.2) r2.1
  r3
abbrev rX5_begins : Room := { frames := 4, cells := 0, slots := 0, locals := 81 }
theorem mm_X5_begins_1 : Cond.fieldLink RX5 19 "GaugeBounds" "states" "LGaugeBounds$States;" ∈ wsX5_begins := List.mem_of_getElem? (i := 1) rfl
theorem mm_X5_begins_2 : Cond.fieldLink RX5 10 "GaugeBounds" "battery" "LGaugeBounds$Battery;" ∈ wsX5_begins := List.mem_of_getElem? (i := 2) rfl
theorem ii_X5_begins_X5 : ∀ w ∈ wsX50, w ∈ wsX5_begins := fun _ h => List.mem_cons_of_mem _ (List.mem_append_left _ (List.mem_append_left _ (List.mem_append_left _ (List.mem_append_left _ (List.mem_append_right _ (h))))))
theorem qvX5_begins : yX5_begins.cls = RX5 ∧ yX5_begins.cls ≠ "java/lang/invoke/MethodHandle" ∧ yX5_begins.cls ≠ "java/lang/invoke/VarHandle" ∧ (parseMethodDescriptor yX5_begins.desc).map (fun d => d.parameters.length) = some 2 := by decide +kernel
set_option maxHeartbeats 4000000 in
set_option maxRecDepth 100000 in
theorem kX5_begins (l : Launch) (E : gEnv) (g0 : Nat) (b : Nat → Nat) (u0 u1 : Nat) (rr : Nat → Nat → Nat) (t : Nat → Nat) (G : GS) (lo : Int32) (up : Int32) (hj : G.2.2.1 < 6) : gMi l E yX5_begins wsX5_begins rX5_begins [.ref g0, .int lo, .int up] (wG E g0 b u0 u1 rr t G) (fX5_begins G lo up).1 (wG E g0 b u0 u1 rr t ((fX5_begins G lo up).2)) := by
  refine gMi_of (cc := cX5_begins) (maxL := 3) (ret := (some .int)) (by decide) rfl rfl (Nat.le_of_ble_eq_true rfl) ?_
  intro p e s m args below meth c A Q ls hB hQ
  obtain ⟨hx, hb, hml, hown, hts, hK, hP, hD, hA, hS, hl⟩ := hB
  have hown : s.vm.findClass RX5 = some m.cls := hown
  have hP : va_P E.1 vwCl ((g0, .inr (5, [.ref (b 0), .ref u0, .ref (t 0), .int (G.1 0), .int (G.1 1), .int (G.1 2)])) :: ((wB E b G.2.1) ++ ((u0, .inr (3, [.ref u1, .int (nI G.2.2.1), .int G.2.2.2.1])) :: ((u1, .inl (eO E, 6, .inr (.inr (.inr (.inr (fun k => some (rr k 0))))))) :: ((wRg E rr G.2.2.2.2.1) ++ (wT E t G.2.2.2.2.2)))))) s.heap := hP
  have hD : va_D A ((g0, .inr (5, [.ref (b 0), .ref u0, .ref (t 0), .int (G.1 0), .int (G.1 1), .int (G.1 2)])) :: ((wB E b G.2.1) ++ ((u0, .inr (3, [.ref u1, .int (nI G.2.2.1), .int G.2.2.2.1])) :: ((u1, .inl (eO E, 6, .inr (.inr (.inr (.inr (fun k => some (rr k 0))))))) :: ((wRg E rr G.2.2.2.2.1) ++ (wT E t G.2.2.2.2.2)))))) := hD
  have hl : lv_has ls 3 [(0, .ref g0), (1, .int lo), (2, .int up)] := hl
  refine lv_aload_n (pc := 0) hx hb dX5_begins_0 rfl (lv_at hl 0 rfl) ?_
  refine g_get (v := .ref u0) (pc := 1) hx hb hts ii_X5_begins_X5 hown hK.1 hP 0 rfl rfl 1 (by decide) ⟨rfl, rfl, rfl⟩ mm_X5_begins_1 rfl dX5_begins_1 ?_
  refine lv_aload_n (pc := 4) hx hb dX5_begins_4 rfl (lv_at hl 0 rfl) ?_
  refine g_get (v := .ref (b 0)) (pc := 5) hx hb hts ii_X5_begins_X5 hown hK.1 hP 0 rfl rfl 0 (by decide) ⟨rfl, rfl, rfl⟩ mm_X5_begins_2 rfl dX5_begins_5 ?_
  obtain ⟨r1, er1⟩ : ∃ z : Nat → Bat, fX3_mark G.2.1 G.2.2.1 G.2.2.2.1 G.2.2.2.2.1 = z := ⟨_, rfl⟩
  have hr1 := kX3_mark l E b u0 u1 rr G.2.1 G.2.2.1 G.2.2.2.1 G.2.2.2.2.1 hj
  rw [er1] at hr1
  refine gcVv (pc := 8) (w1 := ((g0, .inr (5, [.ref (b 0), .ref u0, .ref (t 0), .int (G.1 0), .int (G.1 1), .int (G.1 2)])) :: ((wB E b G.2.1) ++ ((u0, .inr (3, [.ref u1, .int (nI G.2.2.1), .int G.2.2.2.1])) :: ((u1, .inl (eO E, 6, .inr (.inr (.inr (.inr (fun k => some (rr k 0))))))) :: ((wRg E rr r1) ++ (wT E t G.2.2.2.2.2))))))) (pre := [(g0, .inr (5, [.ref (b 0), .ref u0, .ref (t 0), .int (G.1 0), .int (G.1 1), .int (G.1 2)]))]) (post := (wT E t G.2.2.2.2.2)) (As := [.ref (b 0)]) (rest := []) (q0 := 6) ⟨hx, hb, hml, hown, hts⟩ hr1 (cwV 1 hts gX5_begins_X3_mark rfl rfl rfl qvX3_mark ⟨Nat.le_of_ble_eq_true rfl, Nat.le_of_ble_eq_true rfl⟩) hK hP hD hS hA (by simp only [List.cons_append, List.append_assoc, List.nil_append, List.append_nil]) (by simp only [List.cons_append, List.append_assoc, List.nil_append, List.append_nil]) rfl rfl rfl hl.1 rfl (Nat.le_of_ble_eq_true rfl) dX5_begins_8 ⟨Nat.zero_le _, Nat.zero_le _⟩ (fun H locs hP hD hS => ?_)
  refine lv_aload_n (pc := 11) hx hb dX5_begins_11 rfl (lv_at hl 0 rfl) ?_
  refine lv_aload_n (pc := 12) hx hb dX5_begins_12 rfl (lv_at hl 0 rfl) ?_
  refine g_get (v := .ref (b 0)) (pc := 13) hx hb hts ii_X5_begins_X5 hown hK.1 hP 0 rfl rfl 0 (by decide) ⟨rfl, rfl, rfl⟩ mm_X5_begins_2 rfl dX5_begins_13 ?_
  refine lv_iload_n (pc := 16) hx hb dX5_begins_16 rfl (lv_at hl 1 rfl) ?_
  refine lv_iload_n (pc := 17) hx hb dX5_begins_17 rfl (lv_at hl 2 rfl) ?_
  obtain ⟨r2, er2⟩ : ∃ z : Int32 × (Bat), fX1_begin G.2.1 lo up = z := ⟨_, rfl⟩
  have hr2 := kX1_begin l E b G.2.1 lo up
  rw [er2] at hr2
  refine gcVi (pc := 18) (w1 := ((g0, .inr (5, [.ref (b 0), .ref u0, .ref (t 0), .int (G.1 0), .int (G.1 1), .int (G.1 2)])) :: ((wB E b r2.2) ++ ((u0, .inr (3, [.ref u1, .int (nI G.2.2.1), .int G.2.2.2.1])) :: ((u1, .inl (eO E, 6, .inr (.inr (.inr (.inr (fun k => some (rr k 0))))))) :: ((wRg E rr r1) ++ (wT E t G.2.2.2.2.2))))))) (pre := [(g0, .inr (5, [.ref (b 0), .ref u0, .ref (t 0), .int (G.1 0), .int (G.1 1), .int (G.1 2)]))]) (post := ((u0, .inr (3, [.ref u1, .int (nI G.2.2.1), .int G.2.2.2.1])) :: ((u1, .inl (eO E, 6, .inr (.inr (.inr (.inr (fun k => some (rr k 0))))))) :: ((wRg E rr r1) ++ (wT E t G.2.2.2.2.2))))) (As := [.int lo, .int up]) (rest := [.ref g0]) (q0 := 0) ⟨hx, hb, hml, hown, hts⟩ hr2 (cwV 2 hts gX5_begins_X1_begin rfl rfl rfl qvX1_begin ⟨Nat.le_of_ble_eq_true rfl, Nat.le_of_ble_eq_true rfl⟩) hK hP hD hS hA (by simp only [List.cons_append, List.append_assoc, List.nil_append, List.append_nil]) (by simp only [List.cons_append, List.append_assoc, List.nil_append, List.append_nil]) rfl rfl rfl hl.1 rfl (Nat.le_of_ble_eq_true rfl) dX5_begins_18 ⟨Nat.zero_le _, Nat.zero_le _⟩ (fun H locs hP hD hS => ?_)
  obtain ⟨r3, er3⟩ : ∃ z : Int32 × (GS), fX5_settled (G.1, r2.2, G.2.2.1, G.2.2.2.1, r1, G.2.2.2.2.2) r2.1 = z := ⟨_, rfl⟩
  have hr3 := kX5_settled l E g0 b u0 u1 rr t (G.1, r2.2, G.2.2.1, G.2.2.2.1, r1, G.2.2.2.2.2) r2.1 hj
  rw [er3] at hr3
  refine gcVi0 (pc := 21) (w1 := ((g0, .inr (5, [.ref (b 0), .ref u0, .ref (t 0), .int (r3.2.1 0), .int (r3.2.1 1), .int (r3.2.1 2)])) :: ((wB E b r3.2.2.1) ++ ((u0, .inr (3, [.ref u1, .int (nI r3.2.2.2.1), .int r3.2.2.2.2.1])) :: ((u1, .inl (eO E, 6, .inr (.inr (.inr (.inr (fun k => some (rr k 0))))))) :: ((wRg E rr r3.2.2.2.2.2.1) ++ (wT E t r3.2.2.2.2.2.2))))))) (As := [.int r2.1]) (rest := []) (q0 := 0) ⟨hx, hb, hml, hown, hts⟩ hr3 (cwV 1 hts gX5_begins_X5_settled rfl rfl rfl qvX5_settled ⟨Nat.le_of_ble_eq_true rfl, Nat.le_of_ble_eq_true rfl⟩) hK hP hD hS hA rfl rfl rfl rfl rfl hl.1 rfl (Nat.le_of_ble_eq_true rfl) dX5_begins_21 ⟨Nat.zero_le _, Nat.zero_le _⟩ (fun H locs hP hD hS => ?_)
  have hfn : fX5_begins G lo up = r3 := by
    subst er3
    subst er2
    subst er1
    exact rfl
  rw [hfn] at hQ
  exact hQ _ _ _ _ _ rfl hP hD hS dX5_begins_24

