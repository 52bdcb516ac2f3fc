/-! the reference does orders -/
noncomputable def fX6_doneOne (M : Mdl) (k : Int32) : Int32 × (Mdl) :=
  let x1 : Int32 := (M.2.2.2.2.2.2.2.2 ((2 * k).toNatClampNeg))
  let x2 : Int32 := (M.2.2.2.2.2.2.2.2 (((2 * k) + 1).toNatClampNeg))
  if (M.2.2.2.2.2.2.2.1 k.toNatClampNeg) = 103 then
    let r4 : Int32 × (Mdl) := fX6_putSetting M 12 x1 500
    (r4.1, r4.2)
  else
    if (M.2.2.2.2.2.2.2.1 k.toNatClampNeg) = 108 then
      let r6 : Int32 × (Mdl) := fX6_putLoad M x1 x2
      (r6.1, r6.2)
    else
      if (M.2.2.2.2.2.2.2.1 k.toNatClampNeg) = 111 then
        let r8 : Int32 × (Mdl) := fX6_putSetting M 11 x1 9
        (r8.1, r8.2)
      else
        if (M.2.2.2.2.2.2.2.1 k.toNatClampNeg) = 112 then
          let r10 : Int32 × (Mdl) := fX6_putPassing M x1 x2
          (r10.1, r10.2)
        else
          if (M.2.2.2.2.2.2.2.1 k.toNatClampNeg) = 114 then
            let r12 : Int32 × (Mdl) := fX6_putRest M x1
            (r12.1, r12.2)
          else
            let r14 : Int32 × (Mdl) := fX6_putPoint M x1 x2
            (r14.1, r14.2)
abbrev rX6_doneOne : Room := { frames := 3, cells := 0, slots := 0, locals := 80 }
theorem mm_X6_doneOne_1 : Cond.fieldLink RX6 29 "GaugeBoundsModel" "numbers" "[I" ∈ wsX6_doneOne := List.mem_of_getElem? (i := 1) rfl
theorem mm_X6_doneOne_2 : Cond.fieldLink RX6 26 "GaugeBoundsModel" "letters" "[I" ∈ wsX6_doneOne := List.mem_of_getElem? (i := 2) rfl
theorem ii_X6_doneOne_X6 : ∀ w ∈ wsX60, w ∈ wsX6_doneOne := fun _ h => List.mem_cons_of_mem _ (List.mem_append_right _ (h))
theorem qvX6_doneOne : yX6_doneOne.cls = RX6 ∧ yX6_doneOne.cls ≠ "java/lang/invoke/MethodHandle" ∧ yX6_doneOne.cls ≠ "java/lang/invoke/VarHandle" ∧ (parseMethodDescriptor yX6_doneOne.desc).map (fun d => d.parameters.length) = some 1 := by decide +kernel
set_option maxHeartbeats 4000000 in
set_option maxRecDepth 100000 in
theorem kX6_doneOne (l : Launch) (E : gEnv) (a : Nat → Nat) (M : Mdl) (k : Int32) (hk : vp_in k 60) (hk2 : vp_in (2 * k) 120) (hk3 : vp_in ((2 * k) + 1) 120) (hm : 0 ≤ (fX6_middle M.2.2.1).toInt ∧ (fX6_middle M.2.2.1).toInt ≤ 1000) : gMi l E yX6_doneOne wsX6_doneOne rX6_doneOne [.ref (a 0), .int k] (wM E a M) (fX6_doneOne M k).1 (wM E a ((fX6_doneOne M k).2)) := by
  refine gMi_of (cc := cX6_doneOne) (maxL := 4) (ret := (some .int)) (by decide) rfl rfl (Nat.le_of_ble_eq_true rfl) ?_
  intro p e s m args below meth c A Q ls hB hQ
  obtain ⟨hx, hb, hml, hown, hts, hK, hP, hD, hA, hS, hl⟩ := hB
  have hown : s.vm.findClass RX6 = some m.cls := hown
  have hP : va_P E.1 vwCl [(a 0, .inr (6, [.ref (a 1), .ref (a 2), .ref (a 3), .int (M.1 0), .ref (a 4), .ref (a 5), .int (M.1 1), .int (M.1 2), .int (M.1 3), .ref (a 6), .ref (a 7), .int (M.1 4), .int (M.1 5), .int (M.1 6), .long M.2.1])), (a 1, .inl (eJ E, 68, .inr (.inl M.2.2.1))), (a 2, .inl (eJ E, 68, .inr (.inl M.2.2.2.1))), (a 3, .inl (eJ E, 340, .inr (.inl M.2.2.2.2.1))), (a 4, .inl (eI E, 3, .inl M.2.2.2.2.2.1)), (a 5, .inl (eI E, 120, .inl M.2.2.2.2.2.2.1)), (a 6, .inl (eI E, 60, .inl M.2.2.2.2.2.2.2.1)), (a 7, .inl (eI E, 120, .inl M.2.2.2.2.2.2.2.2))] s.heap := hP
  have hD : va_D A [(a 0, .inr (6, [.ref (a 1), .ref (a 2), .ref (a 3), .int (M.1 0), .ref (a 4), .ref (a 5), .int (M.1 1), .int (M.1 2), .int (M.1 3), .ref (a 6), .ref (a 7), .int (M.1 4), .int (M.1 5), .int (M.1 6), .long M.2.1])), (a 1, .inl (eJ E, 68, .inr (.inl M.2.2.1))), (a 2, .inl (eJ E, 68, .inr (.inl M.2.2.2.1))), (a 3, .inl (eJ E, 340, .inr (.inl M.2.2.2.2.1))), (a 4, .inl (eI E, 3, .inl M.2.2.2.2.2.1)), (a 5, .inl (eI E, 120, .inl M.2.2.2.2.2.2.1)), (a 6, .inl (eI E, 60, .inl M.2.2.2.2.2.2.2.1)), (a 7, .inl (eI E, 120, .inl M.2.2.2.2.2.2.2.2))] := hD
  have hl : lv_has ls 4 [(0, .ref (a 0)), (1, .int k)] := hl
  refine lv_aload_n (pc := 0) hx hb dX6_doneOne_0 rfl (lv_at hl 0 rfl) ?_
  refine g_get (v := .ref (a 7)) (pc := 1) hx hb hts ii_X6_doneOne_X6 hown hK.1 hP 0 rfl rfl 10 (by decide) ⟨rfl, rfl, rfl⟩ mm_X6_doneOne_1 rfl dX6_doneOne_1 ?_
  refine lv_iconst (v := 2) (pc := 4) hx hb dX6_doneOne_4 rfl ?_
  refine lv_iload_n (pc := 5) hx hb dX6_doneOne_5 rfl (lv_at hl 1 rfl) ?_
  refine lv_imul (pc := 6) hx hb dX6_doneOne_6 ?_
  refine g_iald (j := (2 * k).toNatClampNeg) (v := (M.2.2.2.2.2.2.2.2 ((2 * k).toNatClampNeg))) (pc := 7) hx hb hK.1 hP 7 0 rfl rfl hk2 rfl rfl dX6_doneOne_7 ?_
  refine g_topi (fun x1 ex1 => ?_)
  refine lv_istore_n (lv' := [(2, .int x1), (0, .ref (a 0)), (1, .int k)]) (pc := 8) hx hb dX6_doneOne_8 rfl hl (by decide) rfl (fun ls hl => ?_)
  refine lv_aload_n (pc := 9) hx hb dX6_doneOne_9 rfl (lv_at hl 1 rfl) ?_
  refine g_get (v := .ref (a 7)) (pc := 10) hx hb hts ii_X6_doneOne_X6 hown hK.1 hP 0 rfl rfl 10 (by decide) ⟨rfl, rfl, rfl⟩ mm_X6_doneOne_1 rfl dX6_doneOne_10 ?_
  refine lv_iconst (v := 2) (pc := 13) hx hb dX6_doneOne_13 rfl ?_
  refine lv_iload_n (pc := 14) hx hb dX6_doneOne_14 rfl (lv_at hl 2 rfl) ?_
  refine lv_imul (pc := 15) hx hb dX6_doneOne_15 ?_
  refine lv_iconst (v := 1) (pc := 16) hx hb dX6_doneOne_16 rfl ?_
  refine lv_iadd (pc := 17) hx hb dX6_doneOne_17 ?_
  refine g_iald (j := ((2 * k) + 1).toNatClampNeg) (v := (M.2.2.2.2.2.2.2.2 (((2 * k) + 1).toNatClampNeg))) (pc := 18) hx hb hK.1 hP 7 0 rfl rfl hk3 rfl rfl dX6_doneOne_18 ?_
  refine g_topi (fun x2 ex2 => ?_)
  refine lv_istore_n (lv' := [(3, .int x2), (2, .int x1), (0, .ref (a 0)), (1, .int k)]) (pc := 19) hx hb dX6_doneOne_19 rfl hl (by decide) rfl (fun ls hl => ?_)
  refine lv_aload_n (pc := 20) hx hb dX6_doneOne_20 rfl (lv_at hl 2 rfl) ?_
  refine g_get (v := .ref (a 6)) (pc := 21) hx hb hts ii_X6_doneOne_X6 hown hK.1 hP 0 rfl rfl 9 (by decide) ⟨rfl, rfl, rfl⟩ mm_X6_doneOne_2 rfl dX6_doneOne_21 ?_
  refine lv_iload_n (pc := 24) hx hb dX6_doneOne_24 rfl (lv_at hl 3 rfl) ?_
  refine g_iald (j := k.toNatClampNeg) (v := (M.2.2.2.2.2.2.2.1 k.toNatClampNeg)) (pc := 25) hx hb hK.1 hP 6 0 rfl rfl hk rfl rfl dX6_doneOne_25 ?_
  by_cases c_3 : (M.2.2.2.2.2.2.2.1 k.toNatClampNeg) = 103
  · refine lv_tableIn (tgt := 118) (pc := 26) hx hb dX6_doneOne_26 (by rw [c_3]; decide) (by rw [c_3]; decide) (by rw [c_3] <;> rfl) (by decide) ?_
    refine lv_aload_n (pc := 118) hx hb dX6_doneOne_118 rfl (lv_at hl 2 rfl) ?_
    refine lv_bipush (v := 12) (pc := 119) hx hb dX6_doneOne_119 rfl ?_
    refine lv_iload_n (pc := 121) hx hb dX6_doneOne_121 rfl (lv_at hl 1 rfl) ?_
    refine lv_sipush (v := 500) (pc := 122) hx hb dX6_doneOne_122 rfl ?_
    obtain ⟨r4, er4⟩ : ∃ z : Int32 × (Mdl), fX6_putSetting M 12 x1 500 = z := ⟨_, rfl⟩
    have hr4 := kX6_putSetting l E a M 12 x1 500 (g_in (by decide +kernel))
    rw [er4] at hr4
    refine gcVi (pc := 125) (w1 := [(a 0, .inr (6, [.ref (a 1), .ref (a 2), .ref (a 3), .int (r4.2.1 0), .ref (a 4), .ref (a 5), .int (r4.2.1 1), .int (r4.2.1 2), .int (r4.2.1 3), .ref (a 6), .ref (a 7), .int (r4.2.1 4), .int (r4.2.1 5), .int (r4.2.1 6), .long r4.2.2.1])), (a 1, .inl (eJ E, 68, .inr (.inl r4.2.2.2.1))), (a 2, .inl (eJ E, 68, .inr (.inl r4.2.2.2.2.1))), (a 3, .inl (eJ E, 340, .inr (.inl r4.2.2.2.2.2.1))), (a 4, .inl (eI E, 3, .inl r4.2.2.2.2.2.2.1)), (a 5, .inl (eI E, 120, .inl r4.2.2.2.2.2.2.2.1)), (a 6, .inl (eI E, 60, .inl r4.2.2.2.2.2.2.2.2.1)), (a 7, .inl (eI E, 120, .inl r4.2.2.2.2.2.2.2.2.2))]) (pre := []) (post := []) (As := [.int 12, .int x1, .int 500]) (rest := []) (q0 := 0) ⟨hx, hb, hml, hown, hts⟩ hr4 (cwV 3 hts gX6_doneOne_X6_putSetting rfl rfl rfl qvX6_putSetting ⟨Nat.le_of_ble_eq_true rfl, Nat.le_of_ble_eq_true rfl⟩) hK hP hD hS hA rfl rfl rfl rfl rfl hl.1 rfl (Nat.le_of_ble_eq_true rfl) dX6_doneOne_125 ⟨Nat.zero_le _, Nat.zero_le _⟩ (fun H locs hP hD hS => ?_)
    subst er4
    subst ex2
    subst ex1
    have hfn : fX6_doneOne M k = _ := if_pos c_3
    rw [hfn] at hQ
    exact hQ _ _ _ _ _ rfl hP hD hS dX6_doneOne_128
  by_cases c_5 : (M.2.2.2.2.2.2.2.1 k.toNatClampNeg) = 108
  · refine lv_tableIn (tgt := 101) (pc := 26) hx hb dX6_doneOne_26 (by rw [c_5]; decide) (by rw [c_5]; decide) (by rw [c_5] <;> rfl) (by decide) ?_
    refine lv_aload_n (pc := 101) hx hb dX6_doneOne_101 rfl (lv_at hl 2 rfl) ?_
    refine lv_iload_n (pc := 102) hx hb dX6_doneOne_102 rfl (lv_at hl 1 rfl) ?_
    refine lv_iload_n (pc := 103) hx hb dX6_doneOne_103 rfl (lv_at hl 0 rfl) ?_
    obtain ⟨r6, er6⟩ : ∃ z : Int32 × (Mdl), fX6_putLoad M x1 x2 = z := ⟨_, rfl⟩
    have hr6 := kX6_putLoad l E a M x1 x2 hm
    rw [er6] at hr6
    refine gcVi (pc := 104) (w1 := [(a 0, .inr (6, [.ref (a 1), .ref (a 2), .ref (a 3), .int (r6.2.1 0), .ref (a 4), .ref (a 5), .int (r6.2.1 1), .int (r6.2.1 2), .int (r6.2.1 3), .ref (a 6), .ref (a 7), .int (r6.2.1 4), .int (r6.2.1 5), .int (r6.2.1 6), .long r6.2.2.1])), (a 1, .inl (eJ E, 68, .inr (.inl r6.2.2.2.1))), (a 2, .inl (eJ E, 68, .inr (.inl r6.2.2.2.2.1))), (a 3, .inl (eJ E, 340, .inr (.inl r6.2.2.2.2.2.1))), (a 4, .inl (eI E, 3, .inl r6.2.2.2.2.2.2.1)), (a 5, .inl (eI E, 120, .inl r6.2.2.2.2.2.2.2.1)), (a 6, .inl (eI E, 60, .inl r6.2.2.2.2.2.2.2.2.1)), (a 7, .inl (eI E, 120, .inl r6.2.2.2.2.2.2.2.2.2))]) (pre := []) (post := []) (As := [.int x1, .int x2]) (rest := []) (q0 := 0) ⟨hx, hb, hml, hown, hts⟩ hr6 (cwV 2 hts gX6_doneOne_X6_putLoad rfl rfl rfl qvX6_putLoad ⟨Nat.le_of_ble_eq_true rfl, Nat.le_of_ble_eq_true rfl⟩) hK hP hD hS hA rfl rfl rfl rfl rfl hl.1 rfl (Nat.le_of_ble_eq_true rfl) dX6_doneOne_104 ⟨Nat.zero_le _, Nat.zero_le _⟩ (fun H locs hP hD hS => ?_)
    subst er6
    subst ex2
    subst ex1
    have hfn : fX6_doneOne M k = _ := (if_neg c_3).trans (if_pos c_5)
    rw [hfn] at hQ
    exact hQ _ _ _ _ _ rfl hP hD hS dX6_doneOne_107
  by_cases c_7 : (M.2.2.2.2.2.2.2.1 k.toNatClampNeg) = 111
  · refine lv_tableIn (tgt := 108) (pc := 26) hx hb dX6_doneOne_26 (by rw [c_7]; decide) (by rw [c_7]; decide) (by rw [c_7] <;> rfl) (by decide) ?_
    refine lv_aload_n (pc := 108) hx hb dX6_doneOne_108 rfl (lv_at hl 2 rfl) ?_
    refine lv_bipush (v := 11) (pc := 109) hx hb dX6_doneOne_109 rfl ?_
    refine lv_iload_n (pc := 111) hx hb dX6_doneOne_111 rfl (lv_at hl 1 rfl) ?_
    refine lv_bipush (v := 9) (pc := 112) hx hb dX6_doneOne_112 rfl ?_
    obtain ⟨r8, er8⟩ : ∃ z : Int32 × (Mdl), fX6_putSetting M 11 x1 9 = z := ⟨_, rfl⟩
    have hr8 := kX6_putSetting l E a M 11 x1 9 (g_in (by decide +kernel))
    rw [er8] at hr8
    refine gcVi (pc := 114) (w1 := [(a 0, .inr (6, [.ref (a 1), .ref (a 2), .ref (a 3), .int (r8.2.1 0), .ref (a 4), .ref (a 5), .int (r8.2.1 1), .int (r8.2.1 2), .int (r8.2.1 3), .ref (a 6), .ref (a 7), .int (r8.2.1 4), .int (r8.2.1 5), .int (r8.2.1 6), .long r8.2.2.1])), (a 1, .inl (eJ E, 68, .inr (.inl r8.2.2.2.1))), (a 2, .inl (eJ E, 68, .inr (.inl r8.2.2.2.2.1))), (a 3, .inl (eJ E, 340, .inr (.inl r8.2.2.2.2.2.1))), (a 4, .inl (eI E, 3, .inl r8.2.2.2.2.2.2.1)), (a 5, .inl (eI E, 120, .inl r8.2.2.2.2.2.2.2.1)), (a 6, .inl (eI E, 60, .inl r8.2.2.2.2.2.2.2.2.1)), (a 7, .inl (eI E, 120, .inl r8.2.2.2.2.2.2.2.2.2))]) (pre := []) (post := []) (As := [.int 11, .int x1, .int 9]) (rest := []) (q0 := 0) ⟨hx, hb, hml, hown, hts⟩ hr8 (cwV 3 hts gX6_doneOne_X6_putSetting rfl rfl rfl qvX6_putSetting ⟨Nat.le_of_ble_eq_true rfl, Nat.le_of_ble_eq_true rfl⟩) hK hP hD hS hA rfl rfl rfl rfl rfl hl.1 rfl (Nat.le_of_ble_eq_true rfl) dX6_doneOne_114 ⟨Nat.zero_le _, Nat.zero_le _⟩ (fun H locs hP hD hS => ?_)
    subst er8
    subst ex2
    subst ex1
    have hfn : fX6_doneOne M k = _ := (if_neg c_3).trans ((if_neg c_5).trans (if_pos c_7))
    rw [hfn] at hQ
    exact hQ _ _ _ _ _ rfl hP hD hS dX6_doneOne_117
  by_cases c_9 : (M.2.2.2.2.2.2.2.1 k.toNatClampNeg) = 112
  · refine lv_tableIn (tgt := 88) (pc := 26) hx hb dX6_doneOne_26 (by rw [c_9]; decide) (by rw [c_9]; decide) (by rw [c_9] <;> rfl) (by decide) ?_
    refine lv_aload_n (pc := 88) hx hb dX6_doneOne_88 rfl (lv_at hl 2 rfl) ?_
    refine lv_iload_n (pc := 89) hx hb dX6_doneOne_89 rfl (lv_at hl 1 rfl) ?_
    refine lv_iload_n (pc := 90) hx hb dX6_doneOne_90 rfl (lv_at hl 0 rfl) ?_
    obtain ⟨r10, er10⟩ : ∃ z : Int32 × (Mdl), fX6_putPassing M x1 x2 = z := ⟨_, rfl⟩
    have hr10 := kX6_putPassing l E a M x1 x2
    rw [er10] at hr10
    refine gcVi (pc := 91) (w1 := [(a 0, .inr (6, [.ref (a 1), .ref (a 2), .ref (a 3), .int (r10.2.1 0), .ref (a 4), .ref (a 5), .int (r10.2.1 1), .int (r10.2.1 2), .int (r10.2.1 3), .ref (a 6), .ref (a 7), .int (r10.2.1 4), .int (r10.2.1 5), .int (r10.2.1 6), .long r10.2.2.1])), (a 1, .inl (eJ E, 68, .inr (.inl r10.2.2.2.1))), (a 2, .inl (eJ E, 68, .inr (.inl r10.2.2.2.2.1))), (a 3, .inl (eJ E, 340, .inr (.inl r10.2.2.2.2.2.1))), (a 4, .inl (eI E, 3, .inl r10.2.2.2.2.2.2.1)), (a 5, .inl (eI E, 120, .inl r10.2.2.2.2.2.2.2.1)), (a 6, .inl (eI E, 60, .inl r10.2.2.2.2.2.2.2.2.1)), (a 7, .inl (eI E, 120, .inl r10.2.2.2.2.2.2.2.2.2))]) (pre := []) (post := []) (As := [.int x1, .int x2]) (rest := []) (q0 := 0) ⟨hx, hb, hml, hown, hts⟩ hr10 (cwV 2 hts gX6_doneOne_X6_putPassing rfl rfl rfl qvX6_putPassing ⟨Nat.le_of_ble_eq_true rfl, Nat.le_of_ble_eq_true rfl⟩) hK hP hD hS hA rfl rfl rfl rfl rfl hl.1 rfl (Nat.le_of_ble_eq_true rfl) dX6_doneOne_91 ⟨Nat.zero_le _, Nat.zero_le _⟩ (fun H locs hP hD hS => ?_)
    subst er10
    subst ex2
    subst ex1
    have hfn : fX6_doneOne M k = _ := (if_neg c_3).trans ((if_neg c_5).trans ((if_neg c_7).trans (if_pos c_9)))
    rw [hfn] at hQ
    exact hQ _ _ _ _ _ rfl hP hD hS dX6_doneOne_94
  by_cases c_11 : (M.2.2.2.2.2.2.2.1 k.toNatClampNeg) = 114
  · refine lv_tableIn (tgt := 95) (pc := 26) hx hb dX6_doneOne_26 (by rw [c_11]; decide) (by rw [c_11]; decide) (by rw [c_11] <;> rfl) (by decide) ?_
    refine lv_aload_n (pc := 95) hx hb dX6_doneOne_95 rfl (lv_at hl 2 rfl) ?_
    refine lv_iload_n (pc := 96) hx hb dX6_doneOne_96 rfl (lv_at hl 1 rfl) ?_
    obtain ⟨r12, er12⟩ : ∃ z : Int32 × (Mdl), fX6_putRest M x1 = z := ⟨_, rfl⟩
    have hr12 := kX6_putRest l E a M x1
    rw [er12] at hr12
    refine gcVi (pc := 97) (w1 := [(a 0, .inr (6, [.ref (a 1), .ref (a 2), .ref (a 3), .int (r12.2.1 0), .ref (a 4), .ref (a 5), .int (r12.2.1 1), .int (r12.2.1 2), .int (r12.2.1 3), .ref (a 6), .ref (a 7), .int (r12.2.1 4), .int (r12.2.1 5), .int (r12.2.1 6), .long r12.2.2.1])), (a 1, .inl (eJ E, 68, .inr (.inl r12.2.2.2.1))), (a 2, .inl (eJ E, 68, .inr (.inl r12.2.2.2.2.1))), (a 3, .inl (eJ E, 340, .inr (.inl r12.2.2.2.2.2.1))), (a 4, .inl (eI E, 3, .inl r12.2.2.2.2.2.2.1)), (a 5, .inl (eI E, 120, .inl r12.2.2.2.2.2.2.2.1)), (a 6, .inl (eI E, 60, .inl r12.2.2.2.2.2.2.2.2.1)), (a 7, .inl (eI E, 120, .inl r12.2.2.2.2.2.2.2.2.2))]) (pre := []) (post := []) (As := [.int x1]) (rest := []) (q0 := 0) ⟨hx, hb, hml, hown, hts⟩ hr12 (cwV 1 hts gX6_doneOne_X6_putRest rfl rfl rfl qvX6_putRest ⟨Nat.le_of_ble_eq_true rfl, Nat.le_of_ble_eq_true rfl⟩) hK hP hD hS hA rfl rfl rfl rfl rfl hl.1 rfl (Nat.le_of_ble_eq_true rfl) dX6_doneOne_97 ⟨Nat.zero_le _, Nat.zero_le _⟩ (fun H locs hP hD hS => ?_)
    subst er12
    subst ex2
    subst ex1
    have hfn : fX6_doneOne M k = _ := (if_neg c_3).trans ((if_neg c_5).trans ((if_neg c_7).trans ((if_neg c_9).trans (if_pos c_11))))
    rw [hfn] at hQ
    exact hQ _ _ _ _ _ rfl hP hD hS dX6_doneOne_100
  have tc_3 : ¬ (M.2.2.2.2.2.2.2.1 k.toNatClampNeg).toInt = 103 := fun h => c_3 (Int32.toInt_inj.mp (h.trans (by decide)))
  have tc_5 : ¬ (M.2.2.2.2.2.2.2.1 k.toNatClampNeg).toInt = 108 := fun h => c_5 (Int32.toInt_inj.mp (h.trans (by decide)))
  have tc_7 : ¬ (M.2.2.2.2.2.2.2.1 k.toNatClampNeg).toInt = 111 := fun h => c_7 (Int32.toInt_inj.mp (h.trans (by decide)))
  have tc_9 : ¬ (M.2.2.2.2.2.2.2.1 k.toNatClampNeg).toInt = 112 := fun h => c_9 (Int32.toInt_inj.mp (h.trans (by decide)))
  have tc_11 : ¬ (M.2.2.2.2.2.2.2.1 k.toNatClampNeg).toInt = 114 := fun h => c_11 (Int32.toInt_inj.mp (h.trans (by decide)))
  have D_13 : W p l e rX6_doneOne s m args below meth c s.heap [] 0 0 Q (F0 m 129 ls []) := by
    refine lv_aload_n (pc := 129) hx hb dX6_doneOne_129 rfl (lv_at hl 2 rfl) ?_
    refine lv_iload_n (pc := 130) hx hb dX6_doneOne_130 rfl (lv_at hl 1 rfl) ?_
    refine lv_iload_n (pc := 131) hx hb dX6_doneOne_131 rfl (lv_at hl 0 rfl) ?_
    obtain ⟨r14, er14⟩ : ∃ z : Int32 × (Mdl), fX6_putPoint M x1 x2 = z := ⟨_, rfl⟩
    have hr14 := kX6_putPoint l E a M x1 x2
    rw [er14] at hr14
    refine gcVi (pc := 132) (w1 := [(a 0, .inr (6, [.ref (a 1), .ref (a 2), .ref (a 3), .int (r14.2.1 0), .ref (a 4), .ref (a 5), .int (r14.2.1 1), .int (r14.2.1 2), .int (r14.2.1 3), .ref (a 6), .ref (a 7), .int (r14.2.1 4), .int (r14.2.1 5), .int (r14.2.1 6), .long r14.2.2.1])), (a 1, .inl (eJ E, 68, .inr (.inl r14.2.2.2.1))), (a 2, .inl (eJ E, 68, .inr (.inl r14.2.2.2.2.1))), (a 3, .inl (eJ E, 340, .inr (.inl r14.2.2.2.2.2.1))), (a 4, .inl (eI E, 3, .inl r14.2.2.2.2.2.2.1)), (a 5, .inl (eI E, 120, .inl r14.2.2.2.2.2.2.2.1)), (a 6, .inl (eI E, 60, .inl r14.2.2.2.2.2.2.2.2.1)), (a 7, .inl (eI E, 120, .inl r14.2.2.2.2.2.2.2.2.2))]) (pre := []) (post := []) (As := [.int x1, .int x2]) (rest := []) (q0 := 0) ⟨hx, hb, hml, hown, hts⟩ hr14 (cwV 2 hts gX6_doneOne_X6_putPoint rfl rfl rfl qvX6_putPoint ⟨Nat.le_of_ble_eq_true rfl, Nat.le_of_ble_eq_true rfl⟩) hK hP hD hS hA rfl rfl rfl rfl rfl hl.1 rfl (Nat.le_of_ble_eq_true rfl) dX6_doneOne_132 ⟨Nat.zero_le _, Nat.zero_le _⟩ (fun H locs hP hD hS => ?_)
    subst er14
    subst ex2
    subst ex1
    have hfn : fX6_doneOne M k = _ := (if_neg c_3).trans ((if_neg c_5).trans ((if_neg c_7).trans ((if_neg c_9).trans (if_neg c_11))))
    rw [hfn] at hQ
    exact hQ _ _ _ _ _ rfl hP hD hS dX6_doneOne_135
  rcases (show (M.2.2.2.2.2.2.2.1 k.toNatClampNeg).toInt < 103 ∨ 114 < (M.2.2.2.2.2.2.2.1 k.toNatClampNeg).toInt ∨ (M.2.2.2.2.2.2.2.1 k.toNatClampNeg).toInt = 104 ∨ (M.2.2.2.2.2.2.2.1 k.toNatClampNeg).toInt = 105 ∨ (M.2.2.2.2.2.2.2.1 k.toNatClampNeg).toInt = 106 ∨ (M.2.2.2.2.2.2.2.1 k.toNatClampNeg).toInt = 107 ∨ (M.2.2.2.2.2.2.2.1 k.toNatClampNeg).toInt = 109 ∨ (M.2.2.2.2.2.2.2.1 k.toNatClampNeg).toInt = 110 ∨ (M.2.2.2.2.2.2.2.1 k.toNatClampNeg).toInt = 113 by omega) with h | h | h | h | h | h | h | h | h
  · exact lv_tableOut (tgt := 129) (pc := 26) hx hb dX6_doneOne_26 (Or.inl h) (by decide) D_13
  · exact lv_tableOut (tgt := 129) (pc := 26) hx hb dX6_doneOne_26 (Or.inr h) (by decide) D_13
  · exact lv_tableIn (tgt := 129) (pc := 26) hx hb dX6_doneOne_26 (by rw [h]; decide) (by rw [h]; decide) (by rw [h] <;> rfl) (by decide) D_13
  · exact lv_tableIn (tgt := 129) (pc := 26) hx hb dX6_doneOne_26 (by rw [h]; decide) (by rw [h]; decide) (by rw [h] <;> rfl) (by decide) D_13
  · exact lv_tableIn (tgt := 129) (pc := 26) hx hb dX6_doneOne_26 (by rw [h]; decide) (by rw [h]; decide) (by rw [h] <;> rfl) (by decide) D_13
  · exact lv_tableIn (tgt := 129) (pc := 26) hx hb dX6_doneOne_26 (by rw [h]; decide) (by rw [h]; decide) (by rw [h] <;> rfl) (by decide) D_13
  · exact lv_tableIn (tgt := 129) (pc := 26) hx hb dX6_doneOne_26 (by rw [h]; decide) (by rw [h]; decide) (by rw [h] <;> rfl) (by decide) D_13
  · exact lv_tableIn (tgt := 129) (pc := 26) hx hb dX6_doneOne_26 (by rw [h]; decide) (by rw [h]; decide) (by rw [h] <;> rfl) (by decide) D_13
  · exact lv_tableIn (tgt := 129) (pc := 26) hx hb dX6_doneOne_26 (by rw [h]; decide) (by rw [h]; decide) (by rw [h] <;> rfl) (by decide) D_13

/-- what was laid aside comes back -/
def rstM (M : Mdl) : Mdl := (M.1, M.2.1, lpCp M.2.2.2.1 M.2.2.1 68, M.2.2.2.1, M.2.2.2.2.1, M.2.2.2.2.2.1, M.2.2.2.2.2.2.1, M.2.2.2.2.2.2.2.1, M.2.2.2.2.2.2.2.2)
noncomputable def dsT : Nat → Nat → Mdl → Int32 × Mdl
  | 0, _, M => ((fX6_remembers M).1 4, fX6_remembers M)
  | f + 1, i, M => if (-10000002) < (fX6_doneOne M (nI i)).1 then dsT f (i + 1) (fX6_doneOne M (nI i)).2 else ((-1000) - (nI i), rstM (fX6_doneOne M (nI i)).2)
noncomputable def fX6_does (M : Mdl) (n : Nat) : Int32 × Mdl := if (fX6_isRead M n).1 = 0 then ((-10) - ((rdM M n (fX6_isRead M n).2).1 6), rdM M n (fX6_isRead M n).2) else dsT (fX6_isRead M n).2.1 0 (fX6_laysAside (rdM M n (fX6_isRead M n).2))
theorem ix_2i {i : Nat} (h : i < 40) : vp_in (2 * nI i) 120 ∧ vp_in ((2 * nI i) + 1) 120 := by
  rw [show (2 : Int32) = nI 2 from rfl, pk_mul, show (1 : Int32) = nI 1 from rfl, nI_add]
  exact ⟨vp_in_nI (by omega) (by decide), vp_in_nI (by omega) (by decide)⟩

abbrev rX6_does : Room := { frames := 6, cells := 0, slots := 0, locals := 135 }
theorem mm_X6_does_2 : Cond.fieldLink RX6 168 "GaugeBoundsModel" "orders" "I" ∈ wsX6_does := List.mem_of_getElem? (i := 2) rfl
theorem mm_X6_does_3 : Cond.constant RX6 44 (-10000002) ∈ wsX6_does := List.mem_of_getElem? (i := 3) rfl
theorem mm_X6_does_4 : Cond.fieldLink RX6 7 "GaugeBoundsModel" "now" "[J" ∈ wsX6_does := List.mem_of_getElem? (i := 4) rfl
theorem mm_X6_does_5 : Cond.fieldLink RX6 13 "GaugeBoundsModel" "aside" "[J" ∈ wsX6_does := List.mem_of_getElem? (i := 5) rfl
theorem mm_X6_does_1 : Cond.fieldLink RX6 155 "GaugeBoundsModel" "wrongAt" "I" ∈ wsX6_does := List.mem_of_getElem? (i := 1) rfl
theorem ii_X6_does_X6 : ∀ w ∈ wsX60, w ∈ wsX6_does := fun _ h => List.mem_cons_of_mem _ (List.mem_append_right _ (h))
theorem qvX6_does : yX6_does.cls = RX6 ∧ yX6_does.cls ≠ "java/lang/invoke/MethodHandle" ∧ yX6_does.cls ≠ "java/lang/invoke/VarHandle" ∧ (parseMethodDescriptor yX6_does.desc).map (fun d => d.parameters.length) = some 0 := by decide +kernel
set_option maxHeartbeats 4000000 in
set_option maxRecDepth 100000 in
theorem kX6_does (l : Launch) (E : gEnv) (a : Nat → Nat) (M : Mdl) (n : Nat) (hn : n ≤ 120) (hx0 : M.1 1 = nI n) (hO : (fX6_isRead M n).2.1 ≤ 40) (Iv : Nat → Mdl → Prop) (hI : ∀ (j : Nat) (N : Mdl), Iv j N → (0 ≤ (fX6_middle N.2.2.1).toInt ∧ (fX6_middle N.2.2.1).toInt ≤ 1000) ∧ N.1 4 = nI (fX6_isRead M n).2.1 ∧ (0 ≤ (N.1 0).toInt ∧ (N.1 0).toInt ≤ 5)) (h0 : ¬ (fX6_isRead M n).1 = 0 → Iv 0 (fX6_laysAside (rdM M n (fX6_isRead M n).2))) (hs : ∀ (N : Mdl) (i : Nat), i < (fX6_isRead M n).2.1 → Iv i N → (-10000002) < (fX6_doneOne N (nI i)).1 → Iv (i + 1) (fX6_doneOne N (nI i)).2) : gMi l E yX6_does wsX6_does rX6_does [.ref (a 0)] (wM E a M) (fX6_does M n).1 (wM E a ((fX6_does M n).2)) := by
  refine gMi_of (cc := cX6_does) (maxL := 3) (ret := (some .int)) (by decide) rfl rfl (Nat.le_of_ble_eq_true rfl) ?_
  intro p e s m args below meth c A Q ls hB hQ
  obtain ⟨hx, hb, hml, hown, hts, hK, hP, hD, hA, hS, hl⟩ := hB
  have hown : s.vm.findClass RX6 = some m.cls := hown
  have hP : va_P E.1 vwCl [(a 0, .inr (6, [.ref (a 1), .ref (a 2), .ref (a 3), .int (M.1 0), .ref (a 4), .ref (a 5), .int (M.1 1), .int (M.1 2), .int (M.1 3), .ref (a 6), .ref (a 7), .int (M.1 4), .int (M.1 5), .int (M.1 6), .long M.2.1])), (a 1, .inl (eJ E, 68, .inr (.inl M.2.2.1))), (a 2, .inl (eJ E, 68, .inr (.inl M.2.2.2.1))), (a 3, .inl (eJ E, 340, .inr (.inl M.2.2.2.2.1))), (a 4, .inl (eI E, 3, .inl M.2.2.2.2.2.1)), (a 5, .inl (eI E, 120, .inl M.2.2.2.2.2.2.1)), (a 6, .inl (eI E, 60, .inl M.2.2.2.2.2.2.2.1)), (a 7, .inl (eI E, 120, .inl M.2.2.2.2.2.2.2.2))] s.heap := hP
  have hD : va_D A [(a 0, .inr (6, [.ref (a 1), .ref (a 2), .ref (a 3), .int (M.1 0), .ref (a 4), .ref (a 5), .int (M.1 1), .int (M.1 2), .int (M.1 3), .ref (a 6), .ref (a 7), .int (M.1 4), .int (M.1 5), .int (M.1 6), .long M.2.1])), (a 1, .inl (eJ E, 68, .inr (.inl M.2.2.1))), (a 2, .inl (eJ E, 68, .inr (.inl M.2.2.2.1))), (a 3, .inl (eJ E, 340, .inr (.inl M.2.2.2.2.1))), (a 4, .inl (eI E, 3, .inl M.2.2.2.2.2.1)), (a 5, .inl (eI E, 120, .inl M.2.2.2.2.2.2.1)), (a 6, .inl (eI E, 60, .inl M.2.2.2.2.2.2.2.1)), (a 7, .inl (eI E, 120, .inl M.2.2.2.2.2.2.2.2))] := hD
  have hl : lv_has ls 3 [(0, .ref (a 0))] := hl
  refine lv_aload_n (pc := 0) hx hb dX6_does_0 rfl (lv_at hl 0 rfl) ?_
  obtain ⟨r1, er1⟩ : ∃ z : Int32 × (MS), fX6_isRead M n = z := ⟨_, rfl⟩
  have hr1 := kX6_isRead l E a M n hn hx0
  rw [er1] at hr1
  refine gcVi (pc := 1) (w1 := [(a 0, .inr (6, [.ref (a 1), .ref (a 2), .ref (a 3), .int ((rdM M n r1.2).1 0), .ref (a 4), .ref (a 5), .int ((rdM M n r1.2).1 1), .int ((rdM M n r1.2).1 2), .int ((rdM M n r1.2).1 3), .ref (a 6), .ref (a 7), .int ((rdM M n r1.2).1 4), .int ((rdM M n r1.2).1 5), .int ((rdM M n r1.2).1 6), .long ((rdM M n r1.2).2.1)])), (a 1, .inl (eJ E, 68, .inr (.inl (rdM M n r1.2).2.2.1))), (a 2, .inl (eJ E, 68, .inr (.inl (rdM M n r1.2).2.2.2.1))), (a 3, .inl (eJ E, 340, .inr (.inl (rdM M n r1.2).2.2.2.2.1))), (a 4, .inl (eI E, 3, .inl (rdM M n r1.2).2.2.2.2.2.1)), (a 5, .inl (eI E, 120, .inl (rdM M n r1.2).2.2.2.2.2.2.1)), (a 6, .inl (eI E, 60, .inl (rdM M n r1.2).2.2.2.2.2.2.2.1)), (a 7, .inl (eI E, 120, .inl (rdM M n r1.2).2.2.2.2.2.2.2.2))]) (pre := []) (post := []) (As := []) (rest := []) (q0 := 0) ⟨hx, hb, hml, hown, hts⟩ hr1 (cwV 0 hts gX6_does_X6_isRead rfl rfl rfl qvX6_isRead ⟨Nat.le_of_ble_eq_true rfl, Nat.le_of_ble_eq_true rfl⟩) hK hP hD hS hA rfl rfl rfl rfl rfl hl.1 rfl (Nat.le_of_ble_eq_true rfl) dX6_does_1 ⟨Nat.zero_le _, Nat.zero_le _⟩ (fun H locs hP hD hS => ?_)
  refine lv_if_ne (tgt := 15) (pc := 4) hx hb dX6_does_4 (by decide) (fun c_2 => ?_) (fun c_2 => ?_)
  · refine lv_aload_n (pc := 15) hx hb dX6_does_15 rfl (lv_at hl 0 rfl) ?_
    obtain ⟨r3, er3⟩ : ∃ z : Mdl, fX6_laysAside (rdM M n r1.2) = z := ⟨_, rfl⟩
    have hr3 := kX6_laysAside l E a (rdM M n r1.2)
    rw [er3] at hr3
    refine gcVv (pc := 16) (w1 := [(a 0, .inr (6, [.ref (a 1), .ref (a 2), .ref (a 3), .int (r3.1 0), .ref (a 4), .ref (a 5), .int (r3.1 1), .int (r3.1 2), .int (r3.1 3), .ref (a 6), .ref (a 7), .int (r3.1 4), .int (r3.1 5), .int (r3.1 6), .long r3.2.1])), (a 1, .inl (eJ E, 68, .inr (.inl r3.2.2.1))), (a 2, .inl (eJ E, 68, .inr (.inl r3.2.2.2.1))), (a 3, .inl (eJ E, 340, .inr (.inl r3.2.2.2.2.1))), (a 4, .inl (eI E, 3, .inl r3.2.2.2.2.2.1)), (a 5, .inl (eI E, 120, .inl r3.2.2.2.2.2.2.1)), (a 6, .inl (eI E, 60, .inl r3.2.2.2.2.2.2.2.1)), (a 7, .inl (eI E, 120, .inl r3.2.2.2.2.2.2.2.2))]) (pre := []) (post := []) (As := []) (rest := []) (q0 := 0) ⟨hx, hb, hml, hown, hts⟩ hr3 (cwV 0 hts gX6_does_X6_laysAside rfl rfl rfl qvX6_laysAside ⟨Nat.le_of_ble_eq_true rfl, Nat.le_of_ble_eq_true rfl⟩) hK hP hD hS hA rfl rfl rfl rfl rfl hl.1 rfl (Nat.le_of_ble_eq_true rfl) dX6_does_16 ⟨Nat.zero_le _, Nat.zero_le _⟩ (fun H locs hP hD hS => ?_)
    refine lv_iconst (v := 0) (pc := 19) hx hb dX6_does_19 rfl ?_
    refine lv_istore_n (lv' := [(1, .int 0), (0, .ref (a 0))]) (pc := 20) hx hb dX6_does_20 rfl hl (by decide) rfl (fun ls hl => ?_)
    have hI0 := h0 (by rw [er1]; exact c_2)
    subst er3
    subst er1
    have hfn : fX6_does M n = dsT (fX6_isRead M n).2.1 0 (fX6_laysAside (rdM M n (fX6_isRead M n).2)) := if_neg c_2
    rw [hfn] at hQ
    have loop : ∀ (f i : Nat) (N : Mdl), i + f = (fX6_isRead M n).2.1 → Iv i N → dsT f i N = dsT (fX6_isRead M n).2.1 0 (fX6_laysAside (rdM M n (fX6_isRead M n).2)) → ∀ (H : Heap) (locs : List Loc) (ls : Array Slot), va_P E.1 vwCl [(a 0, .inr (6, [.ref (a 1), .ref (a 2), .ref (a 3), .int (N.1 0), .ref (a 4), .ref (a 5), .int (N.1 1), .int (N.1 2), .int (N.1 3), .ref (a 6), .ref (a 7), .int (N.1 4), .int (N.1 5), .int (N.1 6), .long N.2.1])), (a 1, .inl (eJ E, 68, .inr (.inl N.2.2.1))), (a 2, .inl (eJ E, 68, .inr (.inl N.2.2.2.1))), (a 3, .inl (eJ E, 340, .inr (.inl N.2.2.2.2.1))), (a 4, .inl (eI E, 3, .inl N.2.2.2.2.2.1)), (a 5, .inl (eI E, 120, .inl N.2.2.2.2.2.2.1)), (a 6, .inl (eI E, 60, .inl N.2.2.2.2.2.2.2.1)), (a 7, .inl (eI E, 120, .inl N.2.2.2.2.2.2.2.2))] H → va_D A [(a 0, .inr (6, [.ref (a 1), .ref (a 2), .ref (a 3), .int (N.1 0), .ref (a 4), .ref (a 5), .int (N.1 1), .int (N.1 2), .int (N.1 3), .ref (a 6), .ref (a 7), .int (N.1 4), .int (N.1 5), .int (N.1 6), .long N.2.1])), (a 1, .inl (eJ E, 68, .inr (.inl N.2.2.1))), (a 2, .inl (eJ E, 68, .inr (.inl N.2.2.2.1))), (a 3, .inl (eJ E, 340, .inr (.inl N.2.2.2.2.1))), (a 4, .inl (eI E, 3, .inl N.2.2.2.2.2.1)), (a 5, .inl (eI E, 120, .inl N.2.2.2.2.2.2.1)), (a 6, .inl (eI E, 60, .inl N.2.2.2.2.2.2.2.1)), (a 7, .inl (eI E, 120, .inl N.2.2.2.2.2.2.2.2))] → va_S A s.heap H locs → lv_has ls 3 [(0, .ref (a 0)), (1, .int (nI i))] → W p l e rX6_does s m args below meth c H locs 0 0 Q (F0 m 21 ls []) := by
      intro f
      induction f with
      | zero =>
        intro i N hi hN hk H locs ls hP hD hS hl
        refine lv_iload_n (pc := 21) hx hb dX6_does_21 rfl (lv_at hl 1 rfl) ?_
        refine lv_aload_n (pc := 22) hx hb dX6_does_22 rfl (lv_at hl 0 rfl) ?_
        refine g_get (v := .int (N.1 4)) (pc := 23) hx hb hts ii_X6_does_X6 hown hK.1 hP 0 rfl rfl 11 (by decide) ⟨rfl, rfl, rfl⟩ mm_X6_does_2 rfl dX6_does_23 ?_
        refine lv_icmp_ge (tgt := 77) (pc := 26) hx hb dX6_does_26 (by decide) (fun c_4 => ?_) (fun c_4 => ?_)
        rotate_left
        · exact absurd (by rw [(hI _ N hN).2.1]; exact nI_le (by omega) (by omega)) c_4
        refine lv_aload_n (pc := 77) hx hb dX6_does_77 rfl (lv_at hl 0 rfl) ?_
        obtain ⟨r5, er5⟩ : ∃ z : Mdl, fX6_remembers N = z := ⟨_, rfl⟩
        have hr5 := kX6_remembers l E a N ((hI _ N hN).2.2)
        rw [er5] at hr5
        refine gcVv (pc := 78) (w1 := [(a 0, .inr (6, [.ref (a 1), .ref (a 2), .ref (a 3), .int (r5.1 0), .ref (a 4), .ref (a 5), .int (r5.1 1), .int (r5.1 2), .int (r5.1 3), .ref (a 6), .ref (a 7), .int (r5.1 4), .int (r5.1 5), .int (r5.1 6), .long r5.2.1])), (a 1, .inl (eJ E, 68, .inr (.inl r5.2.2.1))), (a 2, .inl (eJ E, 68, .inr (.inl r5.2.2.2.1))), (a 3, .inl (eJ E, 340, .inr (.inl r5.2.2.2.2.1))), (a 4, .inl (eI E, 3, .inl r5.2.2.2.2.2.1)), (a 5, .inl (eI E, 120, .inl r5.2.2.2.2.2.2.1)), (a 6, .inl (eI E, 60, .inl r5.2.2.2.2.2.2.2.1)), (a 7, .inl (eI E, 120, .inl r5.2.2.2.2.2.2.2.2))]) (pre := []) (post := []) (As := []) (rest := []) (q0 := 0) ⟨hx, hb, hml, hown, hts⟩ hr5 (cwV 0 hts gX6_does_X6_remembers rfl rfl rfl qvX6_remembers ⟨Nat.le_of_ble_eq_true rfl, Nat.le_of_ble_eq_true rfl⟩) hK hP hD hS hA rfl rfl rfl rfl rfl hl.1 rfl (Nat.le_of_ble_eq_true rfl) dX6_does_78 ⟨Nat.zero_le _, Nat.zero_le _⟩ (fun H locs hP hD hS => ?_)
        refine lv_aload_n (pc := 81) hx hb dX6_does_81 rfl (lv_at hl 0 rfl) ?_
        refine g_get (v := .int (r5.1 4)) (pc := 82) hx hb hts ii_X6_does_X6 hown hK.1 hP 0 rfl rfl 11 (by decide) ⟨rfl, rfl, rfl⟩ mm_X6_does_2 rfl dX6_does_82 ?_
        subst er5
        rw [← hk] at hQ
        exact hQ _ _ _ _ _ rfl hP hD hS dX6_does_85
      | succ f ih =>
        intro i N hi hN hk H locs ls hP hD hS hl
        have hlt : i < (fX6_isRead M n).2.1 := by omega
        refine lv_iload_n (pc := 21) hx hb dX6_does_21 rfl (lv_at hl 1 rfl) ?_
        refine lv_aload_n (pc := 22) hx hb dX6_does_22 rfl (lv_at hl 0 rfl) ?_
        refine g_get (v := .int (N.1 4)) (pc := 23) hx hb hts ii_X6_does_X6 hown hK.1 hP 0 rfl rfl 11 (by decide) ⟨rfl, rfl, rfl⟩ mm_X6_does_2 rfl dX6_does_23 ?_
        refine lv_icmp_ge (tgt := 77) (pc := 26) hx hb dX6_does_26 (by decide) (fun c_6 => ?_) (fun c_6 => ?_)
        · exact absurd c_6 (by rw [(hI _ N hN).2.1]; exact nI_ge hlt (by omega))
        refine lv_aload_n (pc := 29) hx hb dX6_does_29 rfl (lv_at hl 0 rfl) ?_
        refine lv_iload_n (pc := 30) hx hb dX6_does_30 rfl (lv_at hl 1 rfl) ?_
        obtain ⟨r7, er7⟩ : ∃ z : Int32 × (Mdl), fX6_doneOne N (nI i) = z := ⟨_, rfl⟩
        have hr7 := kX6_doneOne l E a N (nI i) (vp_in_nI (by omega) (by decide)) ((ix_2i (by omega)).1) ((ix_2i (by omega)).2) ((hI _ N hN).1)
        rw [er7] at hr7
        refine gcVi (pc := 31) (w1 := [(a 0, .inr (6, [.ref (a 1), .ref (a 2), .ref (a 3), .int (r7.2.1 0), .ref (a 4), .ref (a 5), .int (r7.2.1 1), .int (r7.2.1 2), .int (r7.2.1 3), .ref (a 6), .ref (a 7), .int (r7.2.1 4), .int (r7.2.1 5), .int (r7.2.1 6), .long r7.2.2.1])), (a 1, .inl (eJ E, 68, .inr (.inl r7.2.2.2.1))), (a 2, .inl (eJ E, 68, .inr (.inl r7.2.2.2.2.1))), (a 3, .inl (eJ E, 340, .inr (.inl r7.2.2.2.2.2.1))), (a 4, .inl (eI E, 3, .inl r7.2.2.2.2.2.2.1)), (a 5, .inl (eI E, 120, .inl r7.2.2.2.2.2.2.2.1)), (a 6, .inl (eI E, 60, .inl r7.2.2.2.2.2.2.2.2.1)), (a 7, .inl (eI E, 120, .inl r7.2.2.2.2.2.2.2.2.2))]) (pre := []) (post := []) (As := [.int (nI i)]) (rest := []) (q0 := 0) ⟨hx, hb, hml, hown, hts⟩ hr7 (cwV 1 hts gX6_does_X6_doneOne rfl rfl rfl qvX6_doneOne ⟨Nat.le_of_ble_eq_true rfl, Nat.le_of_ble_eq_true rfl⟩) hK hP hD hS hA rfl rfl rfl rfl rfl hl.1 rfl (Nat.le_of_ble_eq_true rfl) dX6_does_31 ⟨Nat.zero_le _, Nat.zero_le _⟩ (fun H locs hP hD hS => ?_)
        refine lv_ldc (v := (-10000002)) (pc := 34) hx hb hown (hts _ mm_X6_does_3) dX6_does_34 ?_
        refine lv_icmp_gt (tgt := 71) (pc := 36) hx hb dX6_does_36 (by decide) (fun c_8 => ?_) (fun c_8 => ?_)
        · refine lv_iinc (v := nI (i + 1)) (lv' := [(1, .int (nI (i + 1))), (0, .ref (a 0))]) (pc := 71) hx hb dX6_does_71 hl (k := 1) rfl (nI_1 i) (by decide) rfl (fun ls hl => ?_)
          refine lv_goto (tgt := 21) (pc := 74) hx hb dX6_does_74 (by decide) ?_
          subst er7
          exact ih (i + 1) (fX6_doneOne N (nI i)).2 (by omega) (hs N i hlt hN c_8) ((show dsT (f + 1) i N = dsT f (i + 1) (fX6_doneOne N (nI i)).2 from if_pos c_8).symm.trans hk) _ _ _ hP hD hS (lv_sub hl [1, 0] rfl)
        · refine lv_iconst (v := 0) (pc := 39) hx hb dX6_does_39 rfl ?_
          refine lv_istore_n (lv' := [(2, .int 0), (0, .ref (a 0)), (1, .int (nI i))]) (pc := 40) hx hb dX6_does_40 rfl hl (by decide) rfl (fun ls hl => ?_)
          have loop12 : ∀ (n10 i9 : Nat), i9 + n10 = 68 → ∀ (H : Heap) (locs : List Loc) (ls : Array Slot), va_P E.1 vwCl [(a 0, .inr (6, [.ref (a 1), .ref (a 2), .ref (a 3), .int (r7.2.1 0), .ref (a 4), .ref (a 5), .int (r7.2.1 1), .int (r7.2.1 2), .int (r7.2.1 3), .ref (a 6), .ref (a 7), .int (r7.2.1 4), .int (r7.2.1 5), .int (r7.2.1 6), .long r7.2.2.1])), (a 1, .inl (eJ E, 68, .inr (.inl (lpCp r7.2.2.2.2.1 r7.2.2.2.1 i9)))), (a 2, .inl (eJ E, 68, .inr (.inl r7.2.2.2.2.1))), (a 3, .inl (eJ E, 340, .inr (.inl r7.2.2.2.2.2.1))), (a 4, .inl (eI E, 3, .inl r7.2.2.2.2.2.2.1)), (a 5, .inl (eI E, 120, .inl r7.2.2.2.2.2.2.2.1)), (a 6, .inl (eI E, 60, .inl r7.2.2.2.2.2.2.2.2.1)), (a 7, .inl (eI E, 120, .inl r7.2.2.2.2.2.2.2.2.2))] H → va_D A [(a 0, .inr (6, [.ref (a 1), .ref (a 2), .ref (a 3), .int (r7.2.1 0), .ref (a 4), .ref (a 5), .int (r7.2.1 1), .int (r7.2.1 2), .int (r7.2.1 3), .ref (a 6), .ref (a 7), .int (r7.2.1 4), .int (r7.2.1 5), .int (r7.2.1 6), .long r7.2.2.1])), (a 1, .inl (eJ E, 68, .inr (.inl (lpCp r7.2.2.2.2.1 r7.2.2.2.1 i9)))), (a 2, .inl (eJ E, 68, .inr (.inl r7.2.2.2.2.1))), (a 3, .inl (eJ E, 340, .inr (.inl r7.2.2.2.2.2.1))), (a 4, .inl (eI E, 3, .inl r7.2.2.2.2.2.2.1)), (a 5, .inl (eI E, 120, .inl r7.2.2.2.2.2.2.2.1)), (a 6, .inl (eI E, 60, .inl r7.2.2.2.2.2.2.2.2.1)), (a 7, .inl (eI E, 120, .inl r7.2.2.2.2.2.2.2.2.2))] → va_S A s.heap H locs → lv_has ls 3 [(0, .ref (a 0)), (1, .int (nI i)), (2, .int (nI i9))] → W p l e rX6_does s m args below meth c H locs 0 0 Q (F0 m 41 ls []) := by
            intro n10
            induction n10 with
            | zero =>
              intro i9 hi H locs ls hP hD hS hl
              obtain rfl : i9 = 68 := by omega
              refine lv_iload_n (pc := 41) hx hb dX6_does_41 rfl (lv_at hl 2 rfl) ?_
              refine lv_bipush (v := 68) (pc := 42) hx hb dX6_does_42 rfl ?_
              refine lv_icmp_ge (tgt := 65) (pc := 44) hx hb dX6_does_44 (by decide) (fun c_13 => ?_) (fun c_13 => ?_)
              rotate_left
              · exact absurd (nI_le (a := 68) (b := 68) (by decide) (by decide)) c_13
              refine lv_sipush (v := (-1000)) (pc := 65) hx hb dX6_does_65 rfl ?_
              refine lv_iload_n (pc := 68) hx hb dX6_does_68 rfl (lv_at hl 1 rfl) ?_
              refine lv_isub (pc := 69) hx hb dX6_does_69 ?_
              subst er7
              have hfn2 : dsT (fX6_isRead M n).2.1 0 (fX6_laysAside (rdM M n (fX6_isRead M n).2)) = ((-1000) - (nI i), rstM (fX6_doneOne N (nI i)).2) := hk.symm.trans (if_neg c_8)
              rw [hfn2] at hQ
              exact hQ _ _ _ _ _ rfl hP hD hS dX6_does_70
            | succ n10 ih11 =>
              intro i9 hi H locs ls hP hD hS hl
              have hlt : i9 < 68 := by omega
              refine lv_iload_n (pc := 41) hx hb dX6_does_41 rfl (lv_at hl 2 rfl) ?_
              refine lv_bipush (v := 68) (pc := 42) hx hb dX6_does_42 rfl ?_
              refine lv_icmp_ge (tgt := 65) (pc := 44) hx hb dX6_does_44 (by decide) (fun c_14 => ?_) (fun c_14 => ?_)
              · exact absurd c_14 (nI_ge (a := i9) (b := 68) (by omega) (by decide))
              refine lv_aload_n (pc := 47) hx hb dX6_does_47 rfl (lv_at hl 0 rfl) ?_
              refine g_get (v := .ref (a 1)) (pc := 48) hx hb hts ii_X6_does_X6 hown hK.1 hP 0 rfl rfl 0 (by decide) ⟨rfl, rfl, rfl⟩ mm_X6_does_4 rfl dX6_does_48 ?_
              refine lv_iload_n (pc := 51) hx hb dX6_does_51 rfl (lv_at hl 2 rfl) ?_
              refine lv_aload_n (pc := 52) hx hb dX6_does_52 rfl (lv_at hl 0 rfl) ?_
              refine g_get (v := .ref (a 2)) (pc := 53) hx hb hts ii_X6_does_X6 hown hK.1 hP 0 rfl rfl 1 (by decide) ⟨rfl, rfl, rfl⟩ mm_X6_does_5 rfl dX6_does_53 ?_
              refine lv_iload_n (pc := 56) hx hb dX6_does_56 rfl (lv_at hl 2 rfl) ?_
              refine g_lald (j := i9) (v := (r7.2.2.2.2.1 i9)) (pc := 57) hx hb hK.1 hP 2 1 rfl rfl (vp_in_nI (by omega) (by decide)) (nI_clamp (by omega)) rfl dX6_does_57 ?_
              refine g_topl (fun x15 ex15 => ?_)
              refine g_last (j := i9) (w1 := [(a 0, .inr (6, [.ref (a 1), .ref (a 2), .ref (a 3), .int (r7.2.1 0), .ref (a 4), .ref (a 5), .int (r7.2.1 1), .int (r7.2.1 2), .int (r7.2.1 3), .ref (a 6), .ref (a 7), .int (r7.2.1 4), .int (r7.2.1 5), .int (r7.2.1 6), .long r7.2.2.1])), (a 1, .inl (eJ E, 68, .inr (.inl (vp_updL (lpCp r7.2.2.2.2.1 r7.2.2.2.1 i9) i9 x15)))), (a 2, .inl (eJ E, 68, .inr (.inl r7.2.2.2.2.1))), (a 3, .inl (eJ E, 340, .inr (.inl r7.2.2.2.2.2.1))), (a 4, .inl (eI E, 3, .inl r7.2.2.2.2.2.2.1)), (a 5, .inl (eI E, 120, .inl r7.2.2.2.2.2.2.2.1)), (a 6, .inl (eI E, 60, .inl r7.2.2.2.2.2.2.2.2.1)), (a 7, .inl (eI E, 120, .inl r7.2.2.2.2.2.2.2.2.2))]) (pc := 58) hx hb hK.1 hP hD hS 1 1 rfl rfl (vp_in_nI (by omega) (by decide)) (nI_clamp (by omega)) rfl dX6_does_58 (fun H locs hP hD hS => ?_)
              refine lv_iinc (v := nI (i9 + 1)) (lv' := [(2, .int (nI (i9 + 1))), (0, .ref (a 0)), (1, .int (nI i))]) (pc := 59) hx hb dX6_does_59 hl (k := 2) rfl (nI_1 i9) (by decide) rfl (fun ls hl => ?_)
              refine lv_goto (tgt := 41) (pc := 62) hx hb dX6_does_62 (by decide) ?_
              subst ex15
              exact ih11 (i9 + 1) (by omega) _ _ _ hP hD hS (lv_sub hl [1, 2, 0] rfl)
          exact loop12 68 0 (by decide) _ _ _ hP hD hS (lv_sub hl [1, 2, 0] rfl)
    exact loop (fX6_isRead M n).2.1 0 _ (by omega) hI0 rfl _ _ _ hP hD hS (lv_sub hl [1, 0] rfl)
  · refine lv_bipush (v := (-10)) (pc := 7) hx hb dX6_does_7 rfl ?_
    refine lv_aload_n (pc := 9) hx hb dX6_does_9 rfl (lv_at hl 0 rfl) ?_
    refine g_get (v := .int ((rdM M n r1.2).1 6)) (pc := 10) hx hb hts ii_X6_does_X6 hown hK.1 hP 0 rfl rfl 13 (by decide) ⟨rfl, rfl, rfl⟩ mm_X6_does_1 rfl dX6_does_10 ?_
    refine lv_isub (pc := 13) hx hb dX6_does_13 ?_
    subst er1
    have hfn : fX6_does M n = _ := if_pos c_2
    rw [hfn] at hQ
    exact hQ _ _ _ _ _ rfl hP hD hS dX6_does_14
