theorem ix_band {sg tn : Int32} (h : ¬ fX0_isBand sg tn = 0) : vp_in (sg * 11 + tn) 22 := by
  simp only [fX0_isBand, bz_0] at h
  simp only [Int32.le_iff_toInt_le, Int32.reduceToInt] at h
  have e1 : (sg * 11).toInt = sg.toInt * 11 := by
    rw [Int32.toInt_mul]
    exact Jvm.Kit.bmod32 (by simp only [Int32.reduceToInt]; omega) (by simp only [Int32.reduceToInt]; omega)
  have e2 : (sg * 11 + tn).toInt = sg.toInt * 11 + tn.toInt := by
    rw [Int32.toInt_add, e1]
    exact Jvm.Kit.bmod32 (by omega) (by omega)
  rw [vp_in_iff, e2]
  omega
theorem nz_l {x : Int32} (h : ¬ x = 0) : ¬ x.toInt64 = 0 := by
  intro q
  apply h
  have h1 := congrArg Int64.toInt q
  rw [Int32.toInt_toInt64] at h1
  rw [← Int32.toInt_inj]
  exact h1
theorem nz_p {x : Int32} (h : 0 < x) : ¬ x = 0 := fun q => by rw [q] at h; exact absurd h (by decide)
theorem i_div_100 {x : Int32} (h : ¬ x < 0) : (x / 100).toInt = x.toInt / 100 := by
  rw [Jvm.Kit.i32_div (by intro q; exact absurd q.2 (by decide))]
  rw [Int32.lt_iff_toInt_lt] at h
  exact Int.tdiv_eq_ediv_of_nonneg (by simp only [Int32.reduceToInt] at h; omega)
theorem ix_volts {v k : Int32} (h0 : ¬ v < 0) (h1 : v ≤ 1000) (hk : k = if v = 1000 then 9 else v / 100) : 0 ≤ k.toInt ∧ k.toInt ≤ 9 := by
  by_cases h : v = 1000
  · rw [if_pos h] at hk; rw [hk]; decide
  · rw [if_neg h] at hk
    have h2 := i_div_100 h0
    rw [← hk] at h2
    simp only [Int32.le_iff_toInt_le, Int32.lt_iff_toInt_lt, ← Int32.toInt_inj, Int32.reduceToInt] at h0 h1 h
    omega
theorem ix_volts0 {k : Int32} (h : 0 ≤ k.toInt ∧ k.toInt ≤ 9) : vp_in k 11 := vp_in_iff.mpr (by omega)
theorem ix_volts1 {k : Int32} (h : 0 ≤ k.toInt ∧ k.toInt ≤ 9) : vp_in (k + 1) 11 := vp_in_iff.mpr (by simp only [Int32.le_iff_toInt_le, Int32.lt_iff_toInt_lt, ← Int32.toInt_inj, Int32.toInt_add, Int32.toInt_sub, Int32.toInt_mul, Int.bmod_def, Int32.reduceToInt]; omega)

def fX2_point (C : Nat → Int32) (k : Int32) : Int32 :=
  let r1 : Int32 := fX5_within k 0 10
  let x3 : Int32 := (if r1 = 0 then (-10000002) else (C ((k).toNatClampNeg)))
  x3
abbrev rX2_point : Room := { frames := 1, cells := 0, slots := 0, locals := 22 }
theorem mm_X2_point_4 : Cond.initialized RX5 ∈ wsX2_point := List.mem_of_getElem? (i := 4) rfl
theorem mm_X2_point_3 : Cond.static yX5_within ∈ wsX2_point := List.mem_of_getElem? (i := 3) rfl
theorem mm_X2_point_2 : Cond.constant RX2 25 (-10000002) ∈ wsX2_point := List.mem_of_getElem? (i := 2) rfl
theorem mm_X2_point_1 : Cond.fieldLink RX2 11 "GaugeBounds$Curve" "points" "[I" ∈ wsX2_point := List.mem_of_getElem? (i := 1) rfl
theorem ii_X2_point_X2 : ∀ w ∈ wsX20, w ∈ wsX2_point := fun _ h => List.mem_cons_of_mem _ (List.mem_append_right _ (h))
theorem qvX2_point : yX2_point.cls = RX2 ∧ yX2_point.cls ≠ "java/lang/invoke/MethodHandle" ∧ yX2_point.cls ≠ "java/lang/invoke/VarHandle" ∧ (parseMethodDescriptor yX2_point.desc).map (fun d => d.parameters.length) = some 1 := by decide +kernel
set_option maxHeartbeats 4000000 in
set_option maxRecDepth 100000 in
theorem kX2_point (l : Launch) (E : gEnv) (q0 q1 : Nat) (C : Nat → Int32) (k : Int32) : gMi l E yX2_point wsX2_point rX2_point [.ref q0, .int k] (wCu E q0 q1 C) (fX2_point C k) (wCu E q0 q1 C) := by
  refine gMi_of (cc := cX2_point) (maxL := 2) (ret := (some .int)) (by decide) rfl rfl (Nat.le_of_ble_eq_true rfl) ?_
  intro p e s m args below meth c A Q ls hB hQ
  obtain ⟨hx, hb, hml, hown, hts, hK, hP, hD, hA, hS, hl⟩ := hB
  have hown : s.vm.findClass RX2 = some m.cls := hown
  have hP : va_P E.1 vwCl [(q0, .inr (2, [.ref q1])), (q1, .inl (eI E, 11, .inl C))] s.heap := hP
  have hD : va_D A [(q0, .inr (2, [.ref q1])), (q1, .inl (eI E, 11, .inl C))] := hD
  have hl : lv_has ls 2 [(0, .ref q0), (1, .int k)] := hl
  refine lv_iload_n (pc := 0) hx hb dX2_point_0 rfl (lv_at hl 1 rfl) ?_
  refine lv_iconst (v := 0) (pc := 1) hx hb dX2_point_1 rfl ?_
  refine lv_bipush (v := 10) (pc := 2) hx hb dX2_point_2 rfl ?_
  obtain ⟨r1, er1⟩ : ∃ z : Int32, fX5_within k 0 10 = z := ⟨_, rfl⟩
  have hr1 := kX5_within l E k 0 10
  rw [er1] at hr1
  refine gcNi (pc := 4) (As := [.int k, .int 0, .int 10]) (rest := []) ⟨hx, hb, hml, hown, hts⟩ hr1 ⟨va_cnB 3 hts ggX2_point_X5_within rfl rfl rfl hK.2.2.2.1 (hts _ mm_X2_point_4) qnX5_within ⟨Nat.le_of_ble_eq_true rfl, Nat.le_of_ble_eq_true rfl⟩, hts _ mm_X2_point_3, trivial⟩ hK hP hD hS hA rfl hl.1 rfl (Nat.le_of_ble_eq_true rfl) dX2_point_4 ⟨Nat.zero_le _, Nat.zero_le _⟩ (fun H locs hP hD hS => ?_)
  have J_4 : ∀ (H : Heap) (locs : List Loc) (ls : Array Slot) (x3 : Int32), (if r1 = 0 then (-10000002) else (C ((k).toNatClampNeg))) = x3 → va_P E.1 vwCl [(q0, .inr (2, [.ref q1])), (q1, .inl (eI E, 11, .inl C))] H → va_D A [(q0, .inr (2, [.ref q1])), (q1, .inl (eI E, 11, .inl C))] → va_S A s.heap H locs → lv_has ls 2 [(0, .ref q0), (1, .int k)] → W p l e rX2_point s m args below meth c H locs 0 0 Q (F0 m 21 ls [.int x3]) := by
    intro H locs ls x3 ex3 hP hD hS hl
    subst ex3
    subst er1
    exact hQ _ _ _ _ _ rfl hP hD hS dX2_point_21
  refine lv_if_eq (tgt := 19) (pc := 7) hx hb dX2_point_7 (by decide) (fun c_2 => ?_) (fun c_2 => ?_)
  · refine lv_ldc (v := (-10000002)) (pc := 19) hx hb hown (hts _ mm_X2_point_2) dX2_point_19 ?_
    exact J_4 _ _ _ _ (if_pos c_2) hP hD hS (lv_sub hl [0, 1] rfl)
  · refine lv_aload_n (pc := 10) hx hb dX2_point_10 rfl (lv_at hl 0 rfl) ?_
    refine g_get (v := .ref q1) (pc := 11) hx hb hts ii_X2_point_X2 hown hK.1 hP 0 rfl rfl 0 (by decide) ⟨rfl, rfl, rfl⟩ mm_X2_point_1 rfl dX2_point_11 ?_
    refine lv_iload_n (pc := 14) hx hb dX2_point_14 rfl (lv_at hl 1 rfl) ?_
    refine g_iald (j := (k).toNatClampNeg) (v := (C ((k).toNatClampNeg))) (pc := 15) hx hb hK.1 hP 1 0 rfl rfl (vp_in_iff.mpr (by subst er1; (try simp only [fX5_within, bz_0] at c_2); simp only [Int32.le_iff_toInt_le, Int32.lt_iff_toInt_lt, ← Int32.toInt_inj, Int32.toInt_add, Int32.toInt_sub, Int32.toInt_mul, Int.bmod_def, Int32.reduceToInt] at c_2 ⊢; omega)) rfl rfl dX2_point_15 ?_
    refine lv_goto (tgt := 21) (pc := 16) hx hb dX2_point_16 (by decide) ?_
    exact J_4 _ _ _ _ (if_neg c_2) hP hD hS (lv_sub hl [0, 1] rfl)

def fX2_putPoint (C : Nat → Int32) (k : Int32) (v : Int32) : Int32 × (Nat → Int32) :=
  let r1 : Int32 := fX5_within k 0 10
  if r1 = 0 then
    ((-10000002), C)
  else
    let r3 : Int32 := fX5_within v 0 9999
    if r3 = 0 then
      ((-10000002), C)
    else
      if k ≤ 0 then
        if 10 ≤ k then
          let x7 : Int32 := (C ((k).toNatClampNeg))
          (x7, (upd C ((k).toNatClampNeg) v))
        else
          if v < (C ((k + 1).toNatClampNeg)) then
            let x9 : Int32 := (C ((k).toNatClampNeg))
            (x9, (upd C ((k).toNatClampNeg) v))
          else
            ((-10000003), C)
      else
        if v ≤ (C ((k - 1).toNatClampNeg)) then
          ((-10000003), C)
        else
          if 10 ≤ k then
            let x12 : Int32 := (C ((k).toNatClampNeg))
            (x12, (upd C ((k).toNatClampNeg) v))
          else
            if v < (C ((k + 1).toNatClampNeg)) then
              let x14 : Int32 := (C ((k).toNatClampNeg))
              (x14, (upd C ((k).toNatClampNeg) v))
            else
              ((-10000003), C)
abbrev rX2_putPoint : Room := { frames := 1, cells := 0, slots := 0, locals := 22 }
theorem mm_X2_putPoint_5 : Cond.initialized RX5 ∈ wsX2_putPoint := List.mem_of_getElem? (i := 5) rfl
theorem mm_X2_putPoint_4 : Cond.static yX5_within ∈ wsX2_putPoint := List.mem_of_getElem? (i := 4) rfl
theorem mm_X2_putPoint_1 : Cond.constant RX2 25 (-10000002) ∈ wsX2_putPoint := List.mem_of_getElem? (i := 1) rfl
theorem mm_X2_putPoint_2 : Cond.fieldLink RX2 11 "GaugeBounds$Curve" "points" "[I" ∈ wsX2_putPoint := List.mem_of_getElem? (i := 2) rfl
theorem mm_X2_putPoint_3 : Cond.constant RX2 26 (-10000003) ∈ wsX2_putPoint := List.mem_of_getElem? (i := 3) rfl
theorem ii_X2_putPoint_X2 : ∀ w ∈ wsX20, w ∈ wsX2_putPoint := fun _ h => List.mem_cons_of_mem _ (List.mem_append_right _ (h))
theorem qvX2_putPoint : yX2_putPoint.cls = RX2 ∧ yX2_putPoint.cls ≠ "java/lang/invoke/MethodHandle" ∧ yX2_putPoint.cls ≠ "java/lang/invoke/VarHandle" ∧ (parseMethodDescriptor yX2_putPoint.desc).map (fun d => d.parameters.length) = some 2 := by decide +kernel
set_option maxHeartbeats 4000000 in
set_option maxRecDepth 100000 in
theorem kX2_putPoint (l : Launch) (E : gEnv) (q0 q1 : Nat) (C : Nat → Int32) (k : Int32) (v : Int32) : gMi l E yX2_putPoint wsX2_putPoint rX2_putPoint [.ref q0, .int k, .int v] (wCu E q0 q1 C) (fX2_putPoint C k v).1 (wCu E q0 q1 ((fX2_putPoint C k v).2)) := by
  refine gMi_of (cc := cX2_putPoint) (maxL := 4) (ret := (some .int)) (by decide) rfl rfl (Nat.le_of_ble_eq_true rfl) ?_
  intro p e s m args below meth c A Q ls hB hQ
  obtain ⟨hx, hb, hml, hown, hts, hK, hP, hD, hA, hS, hl⟩ := hB
  have hown : s.vm.findClass RX2 = some m.cls := hown
  have hP : va_P E.1 vwCl [(q0, .inr (2, [.ref q1])), (q1, .inl (eI E, 11, .inl C))] s.heap := hP
  have hD : va_D A [(q0, .inr (2, [.ref q1])), (q1, .inl (eI E, 11, .inl C))] := hD
  have hl : lv_has ls 4 [(0, .ref q0), (1, .int k), (2, .int v)] := hl
  refine lv_iload_n (pc := 0) hx hb dX2_putPoint_0 rfl (lv_at hl 1 rfl) ?_
  refine lv_iconst (v := 0) (pc := 1) hx hb dX2_putPoint_1 rfl ?_
  refine lv_bipush (v := 10) (pc := 2) hx hb dX2_putPoint_2 rfl ?_
  obtain ⟨r1, er1⟩ : ∃ z : Int32, fX5_within k 0 10 = z := ⟨_, rfl⟩
  have hr1 := kX5_within l E k 0 10
  rw [er1] at hr1
  refine gcNi (pc := 4) (As := [.int k, .int 0, .int 10]) (rest := []) ⟨hx, hb, hml, hown, hts⟩ hr1 ⟨va_cnB 3 hts ggX2_putPoint_X5_within rfl rfl rfl hK.2.2.2.1 (hts _ mm_X2_putPoint_5) qnX5_within ⟨Nat.le_of_ble_eq_true rfl, Nat.le_of_ble_eq_true rfl⟩, hts _ mm_X2_putPoint_4, trivial⟩ hK hP hD hS hA rfl hl.1 rfl (Nat.le_of_ble_eq_true rfl) dX2_putPoint_4 ⟨Nat.zero_le _, Nat.zero_le _⟩ (fun H locs hP hD hS => ?_)
  refine lv_if_eq (tgt := 21) (pc := 7) hx hb dX2_putPoint_7 (by decide) (fun c_2 => ?_) (fun c_2 => ?_)
  · refine lv_ldc (v := (-10000002)) (pc := 21) hx hb hown (hts _ mm_X2_putPoint_1) dX2_putPoint_21 ?_
    subst er1
    have hfn : fX2_putPoint C k v = _ := if_pos c_2
    rw [hfn] at hQ
    exact hQ _ _ _ _ _ rfl hP hD hS dX2_putPoint_23
  · refine lv_iload_n (pc := 10) hx hb dX2_putPoint_10 rfl (lv_at hl 2 rfl) ?_
    refine lv_iconst (v := 0) (pc := 11) hx hb dX2_putPoint_11 rfl ?_
    refine lv_sipush (v := 9999) (pc := 12) hx hb dX2_putPoint_12 rfl ?_
    obtain ⟨r3, er3⟩ : ∃ z : Int32, fX5_within v 0 9999 = z := ⟨_, rfl⟩
    have hr3 := kX5_within l E v 0 9999
    rw [er3] at hr3
    refine gcNi (pc := 15) (As := [.int v, .int 0, .int 9999]) (rest := []) ⟨hx, hb, hml, hown, hts⟩ hr3 ⟨va_cnB 3 hts ggX2_putPoint_X5_within rfl rfl rfl hK.2.2.2.1 (hts _ mm_X2_putPoint_5) qnX5_within ⟨Nat.le_of_ble_eq_true rfl, Nat.le_of_ble_eq_true rfl⟩, hts _ mm_X2_putPoint_4, trivial⟩ hK hP hD hS hA rfl hl.1 rfl (Nat.le_of_ble_eq_true rfl) dX2_putPoint_15 ⟨Nat.zero_le _, Nat.zero_le _⟩ (fun H locs hP hD hS => ?_)
    refine lv_if_ne (tgt := 24) (pc := 18) hx hb dX2_putPoint_18 (by decide) (fun c_4 => ?_) (fun c_4 => ?_)
    · refine lv_iload_n (pc := 24) hx hb dX2_putPoint_24 rfl (lv_at hl 1 rfl) ?_
      refine lv_if_le (tgt := 40) (pc := 25) hx hb dX2_putPoint_25 (by decide) (fun c_5 => ?_) (fun c_5 => ?_)
      · refine lv_iload_n (pc := 40) hx hb dX2_putPoint_40 rfl (lv_at hl 1 rfl) ?_
        refine lv_bipush (v := 10) (pc := 41) hx hb dX2_putPoint_41 rfl ?_
        refine lv_icmp_ge (tgt := 61) (pc := 43) hx hb dX2_putPoint_43 (by decide) (fun c_6 => ?_) (fun c_6 => ?_)
        · refine lv_aload_n (pc := 61) hx hb dX2_putPoint_61 rfl (lv_at hl 0 rfl) ?_
          refine g_get (v := .ref q1) (pc := 62) hx hb hts ii_X2_putPoint_X2 hown hK.1 hP 0 rfl rfl 0 (by decide) ⟨rfl, rfl, rfl⟩ mm_X2_putPoint_2 rfl dX2_putPoint_62 ?_
          refine lv_iload_n (pc := 65) hx hb dX2_putPoint_65 rfl (lv_at hl 1 rfl) ?_
          refine g_iald (j := (k).toNatClampNeg) (v := (C ((k).toNatClampNeg))) (pc := 66) hx hb hK.1 hP 1 0 rfl rfl (vp_in_iff.mpr (by subst er3; subst er1; (try simp only [fX5_within, bz_0] at c_2 c_4 c_5 c_6); simp only [Int32.le_iff_toInt_le, Int32.lt_iff_toInt_lt, ← Int32.toInt_inj, Int32.toInt_add, Int32.toInt_sub, Int32.toInt_mul, Int.bmod_def, Int32.reduceToInt] at c_2 c_4 c_5 c_6 ⊢; omega)) rfl rfl dX2_putPoint_66 ?_
          refine g_topi (fun x7 ex7 => ?_)
          refine lv_istore_n (lv' := [(3, .int x7), (0, .ref q0), (1, .int k), (2, .int v)]) (pc := 67) hx hb dX2_putPoint_67 rfl hl (by decide) rfl (fun ls hl => ?_)
          refine lv_aload_n (pc := 68) hx hb dX2_putPoint_68 rfl (lv_at hl 1 rfl) ?_
          refine g_get (v := .ref q1) (pc := 69) hx hb hts ii_X2_putPoint_X2 hown hK.1 hP 0 rfl rfl 0 (by decide) ⟨rfl, rfl, rfl⟩ mm_X2_putPoint_2 rfl dX2_putPoint_69 ?_
          refine lv_iload_n (pc := 72) hx hb dX2_putPoint_72 rfl (lv_at hl 2 rfl) ?_
          refine lv_iload_n (pc := 73) hx hb dX2_putPoint_73 rfl (lv_at hl 3 rfl) ?_
          refine g_iast (j := (k).toNatClampNeg) (w1 := [(q0, .inr (2, [.ref q1])), (q1, .inl (eI E, 11, .inl (upd C ((k).toNatClampNeg) v)))]) (pc := 74) hx hb hK.1 hP hD hS 1 0 rfl rfl (vp_in_iff.mpr (by subst ex7; subst er3; subst er1; (try simp only [fX5_within, bz_0] at c_2 c_4 c_5 c_6); simp only [Int32.le_iff_toInt_le, Int32.lt_iff_toInt_lt, ← Int32.toInt_inj, Int32.toInt_add, Int32.toInt_sub, Int32.toInt_mul, Int.bmod_def, Int32.reduceToInt] at c_2 c_4 c_5 c_6 ⊢; omega)) rfl rfl dX2_putPoint_74 (fun H locs hP hD hS => ?_)
          refine lv_iload_n (pc := 75) hx hb dX2_putPoint_75 rfl (lv_at hl 0 rfl) ?_
          subst ex7
          subst er3
          subst er1
          have hfn : fX2_putPoint C k v = _ := (if_neg c_2).trans ((if_neg c_4).trans ((if_pos c_5).trans (if_pos c_6)))
          rw [hfn] at hQ
          exact hQ _ _ _ _ _ rfl hP hD hS dX2_putPoint_76
        · refine lv_aload_n (pc := 46) hx hb dX2_putPoint_46 rfl (lv_at hl 0 rfl) ?_
          refine g_get (v := .ref q1) (pc := 47) hx hb hts ii_X2_putPoint_X2 hown hK.1 hP 0 rfl rfl 0 (by decide) ⟨rfl, rfl, rfl⟩ mm_X2_putPoint_2 rfl dX2_putPoint_47 ?_
          refine lv_iload_n (pc := 50) hx hb dX2_putPoint_50 rfl (lv_at hl 1 rfl) ?_
          refine lv_iconst (v := 1) (pc := 51) hx hb dX2_putPoint_51 rfl ?_
          refine lv_iadd (pc := 52) hx hb dX2_putPoint_52 ?_
          refine g_iald (j := (k + 1).toNatClampNeg) (v := (C ((k + 1).toNatClampNeg))) (pc := 53) hx hb hK.1 hP 1 0 rfl rfl (vp_in_iff.mpr (by subst er3; subst er1; (try simp only [fX5_within, bz_0] at c_2 c_4 c_5 c_6); simp only [Int32.le_iff_toInt_le, Int32.lt_iff_toInt_lt, ← Int32.toInt_inj, Int32.toInt_add, Int32.toInt_sub, Int32.toInt_mul, Int.bmod_def, Int32.reduceToInt] at c_2 c_4 c_5 c_6 ⊢; omega)) rfl rfl dX2_putPoint_53 ?_
          refine lv_iload_n (pc := 54) hx hb dX2_putPoint_54 rfl (lv_at hl 2 rfl) ?_
          refine lv_icmp_gt (tgt := 61) (pc := 55) hx hb dX2_putPoint_55 (by decide) (fun c_8 => ?_) (fun c_8 => ?_)
          · refine lv_aload_n (pc := 61) hx hb dX2_putPoint_61 rfl (lv_at hl 0 rfl) ?_
            refine g_get (v := .ref q1) (pc := 62) hx hb hts ii_X2_putPoint_X2 hown hK.1 hP 0 rfl rfl 0 (by decide) ⟨rfl, rfl, rfl⟩ mm_X2_putPoint_2 rfl dX2_putPoint_62 ?_
            refine lv_iload_n (pc := 65) hx hb dX2_putPoint_65 rfl (lv_at hl 1 rfl) ?_
            refine g_iald (j := (k).toNatClampNeg) (v := (C ((k).toNatClampNeg))) (pc := 66) hx hb hK.1 hP 1 0 rfl rfl (vp_in_iff.mpr (by subst er3; subst er1; (try simp only [fX5_within, bz_0] at c_2 c_4 c_5 c_6 c_8); simp only [Int32.le_iff_toInt_le, Int32.lt_iff_toInt_lt, ← Int32.toInt_inj, Int32.toInt_add, Int32.toInt_sub, Int32.toInt_mul, Int.bmod_def, Int32.reduceToInt] at c_2 c_4 c_5 c_6 c_8 ⊢; omega)) rfl rfl dX2_putPoint_66 ?_
            refine g_topi (fun x9 ex9 => ?_)
            refine lv_istore_n (lv' := [(3, .int x9), (0, .ref q0), (1, .int k), (2, .int v)]) (pc := 67) hx hb dX2_putPoint_67 rfl hl (by decide) rfl (fun ls hl => ?_)
            refine lv_aload_n (pc := 68) hx hb dX2_putPoint_68 rfl (lv_at hl 1 rfl) ?_
            refine g_get (v := .ref q1) (pc := 69) hx hb hts ii_X2_putPoint_X2 hown hK.1 hP 0 rfl rfl 0 (by decide) ⟨rfl, rfl, rfl⟩ mm_X2_putPoint_2 rfl dX2_putPoint_69 ?_
            refine lv_iload_n (pc := 72) hx hb dX2_putPoint_72 rfl (lv_at hl 2 rfl) ?_
            refine lv_iload_n (pc := 73) hx hb dX2_putPoint_73 rfl (lv_at hl 3 rfl) ?_
            refine g_iast (j := (k).toNatClampNeg) (w1 := [(q0, .inr (2, [.ref q1])), (q1, .inl (eI E, 11, .inl (upd C ((k).toNatClampNeg) v)))]) (pc := 74) hx hb hK.1 hP hD hS 1 0 rfl rfl (vp_in_iff.mpr (by subst ex9; subst er3; subst er1; (try simp only [fX5_within, bz_0] at c_2 c_4 c_5 c_6 c_8); simp only [Int32.le_iff_toInt_le, Int32.lt_iff_toInt_lt, ← Int32.toInt_inj, Int32.toInt_add, Int32.toInt_sub, Int32.toInt_mul, Int.bmod_def, Int32.reduceToInt] at c_2 c_4 c_5 c_6 c_8 ⊢; omega)) rfl rfl dX2_putPoint_74 (fun H locs hP hD hS => ?_)
            refine lv_iload_n (pc := 75) hx hb dX2_putPoint_75 rfl (lv_at hl 0 rfl) ?_
            subst ex9
            subst er3
            subst er1
            have hfn : fX2_putPoint C k v = _ := (if_neg c_2).trans ((if_neg c_4).trans ((if_pos c_5).trans ((if_neg c_6).trans (if_pos c_8))))
            rw [hfn] at hQ
            exact hQ _ _ _ _ _ rfl hP hD hS dX2_putPoint_76
          · refine lv_ldc (v := (-10000003)) (pc := 58) hx hb hown (hts _ mm_X2_putPoint_3) dX2_putPoint_58 ?_
            subst er3
            subst er1
            have hfn : fX2_putPoint C k v = _ := (if_neg c_2).trans ((if_neg c_4).trans ((if_pos c_5).trans ((if_neg c_6).trans (if_neg c_8))))
            rw [hfn] at hQ
            exact hQ _ _ _ _ _ rfl hP hD hS dX2_putPoint_60
      · refine lv_aload_n (pc := 28) hx hb dX2_putPoint_28 rfl (lv_at hl 0 rfl) ?_
        refine g_get (v := .ref q1) (pc := 29) hx hb hts ii_X2_putPoint_X2 hown hK.1 hP 0 rfl rfl 0 (by decide) ⟨rfl, rfl, rfl⟩ mm_X2_putPoint_2 rfl dX2_putPoint_29 ?_
        refine lv_iload_n (pc := 32) hx hb dX2_putPoint_32 rfl (lv_at hl 1 rfl) ?_
        refine lv_iconst (v := 1) (pc := 33) hx hb dX2_putPoint_33 rfl ?_
        refine lv_isub (pc := 34) hx hb dX2_putPoint_34 ?_
        refine g_iald (j := (k - 1).toNatClampNeg) (v := (C ((k - 1).toNatClampNeg))) (pc := 35) hx hb hK.1 hP 1 0 rfl rfl (vp_in_iff.mpr (by subst er3; subst er1; (try simp only [fX5_within, bz_0] at c_2 c_4 c_5); simp only [Int32.le_iff_toInt_le, Int32.lt_iff_toInt_lt, ← Int32.toInt_inj, Int32.toInt_add, Int32.toInt_sub, Int32.toInt_mul, Int.bmod_def, Int32.reduceToInt] at c_2 c_4 c_5 ⊢; omega)) rfl rfl dX2_putPoint_35 ?_
        refine lv_iload_n (pc := 36) hx hb dX2_putPoint_36 rfl (lv_at hl 2 rfl) ?_
        refine lv_icmp_ge (tgt := 58) (pc := 37) hx hb dX2_putPoint_37 (by decide) (fun c_10 => ?_) (fun c_10 => ?_)
        · refine lv_ldc (v := (-10000003)) (pc := 58) hx hb hown (hts _ mm_X2_putPoint_3) dX2_putPoint_58 ?_
          subst er3
          subst er1
          have hfn : fX2_putPoint C k v = _ := (if_neg c_2).trans ((if_neg c_4).trans ((if_neg c_5).trans (if_pos c_10)))
          rw [hfn] at hQ
          exact hQ _ _ _ _ _ rfl hP hD hS dX2_putPoint_60
        · refine lv_iload_n (pc := 40) hx hb dX2_putPoint_40 rfl (lv_at hl 1 rfl) ?_
          refine lv_bipush (v := 10) (pc := 41) hx hb dX2_putPoint_41 rfl ?_
          refine lv_icmp_ge (tgt := 61) (pc := 43) hx hb dX2_putPoint_43 (by decide) (fun c_11 => ?_) (fun c_11 => ?_)
          · refine lv_aload_n (pc := 61) hx hb dX2_putPoint_61 rfl (lv_at hl 0 rfl) ?_
            refine g_get (v := .ref q1) (pc := 62) hx hb hts ii_X2_putPoint_X2 hown hK.1 hP 0 rfl rfl 0 (by decide) ⟨rfl, rfl, rfl⟩ mm_X2_putPoint_2 rfl dX2_putPoint_62 ?_
            refine lv_iload_n (pc := 65) hx hb dX2_putPoint_65 rfl (lv_at hl 1 rfl) ?_
            refine g_iald (j := (k).toNatClampNeg) (v := (C ((k).toNatClampNeg))) (pc := 66) hx hb hK.1 hP 1 0 rfl rfl (vp_in_iff.mpr (by subst er3; subst er1; (try simp only [fX5_within, bz_0] at c_2 c_4 c_5 c_10 c_11); simp only [Int32.le_iff_toInt_le, Int32.lt_iff_toInt_lt, ← Int32.toInt_inj, Int32.toInt_add, Int32.toInt_sub, Int32.toInt_mul, Int.bmod_def, Int32.reduceToInt] at c_2 c_4 c_5 c_10 c_11 ⊢; omega)) rfl rfl dX2_putPoint_66 ?_
            refine g_topi (fun x12 ex12 => ?_)
            refine lv_istore_n (lv' := [(3, .int x12), (0, .ref q0), (1, .int k), (2, .int v)]) (pc := 67) hx hb dX2_putPoint_67 rfl hl (by decide) rfl (fun ls hl => ?_)
            refine lv_aload_n (pc := 68) hx hb dX2_putPoint_68 rfl (lv_at hl 1 rfl) ?_
            refine g_get (v := .ref q1) (pc := 69) hx hb hts ii_X2_putPoint_X2 hown hK.1 hP 0 rfl rfl 0 (by decide) ⟨rfl, rfl, rfl⟩ mm_X2_putPoint_2 rfl dX2_putPoint_69 ?_
            refine lv_iload_n (pc := 72) hx hb dX2_putPoint_72 rfl (lv_at hl 2 rfl) ?_
            refine lv_iload_n (pc := 73) hx hb dX2_putPoint_73 rfl (lv_at hl 3 rfl) ?_
            refine g_iast (j := (k).toNatClampNeg) (w1 := [(q0, .inr (2, [.ref q1])), (q1, .inl (eI E, 11, .inl (upd C ((k).toNatClampNeg) v)))]) (pc := 74) hx hb hK.1 hP hD hS 1 0 rfl rfl (vp_in_iff.mpr (by subst ex12; subst er3; subst er1; (try simp only [fX5_within, bz_0] at c_2 c_4 c_5 c_10 c_11); simp only [Int32.le_iff_toInt_le, Int32.lt_iff_toInt_lt, ← Int32.toInt_inj, Int32.toInt_add, Int32.toInt_sub, Int32.toInt_mul, Int.bmod_def, Int32.reduceToInt] at c_2 c_4 c_5 c_10 c_11 ⊢; omega)) rfl rfl dX2_putPoint_74 (fun H locs hP hD hS => ?_)
            refine lv_iload_n (pc := 75) hx hb dX2_putPoint_75 rfl (lv_at hl 0 rfl) ?_
            subst ex12
            subst er3
            subst er1
            have hfn : fX2_putPoint C k v = _ := (if_neg c_2).trans ((if_neg c_4).trans ((if_neg c_5).trans ((if_neg c_10).trans (if_pos c_11))))
            rw [hfn] at hQ
            exact hQ _ _ _ _ _ rfl hP hD hS dX2_putPoint_76
          · refine lv_aload_n (pc := 46) hx hb dX2_putPoint_46 rfl (lv_at hl 0 rfl) ?_
            refine g_get (v := .ref q1) (pc := 47) hx hb hts ii_X2_putPoint_X2 hown hK.1 hP 0 rfl rfl 0 (by decide) ⟨rfl, rfl, rfl⟩ mm_X2_putPoint_2 rfl dX2_putPoint_47 ?_
            refine lv_iload_n (pc := 50) hx hb dX2_putPoint_50 rfl (lv_at hl 1 rfl) ?_
            refine lv_iconst (v := 1) (pc := 51) hx hb dX2_putPoint_51 rfl ?_
            refine lv_iadd (pc := 52) hx hb dX2_putPoint_52 ?_
            refine g_iald (j := (k + 1).toNatClampNeg) (v := (C ((k + 1).toNatClampNeg))) (pc := 53) hx hb hK.1 hP 1 0 rfl rfl (vp_in_iff.mpr (by subst er3; subst er1; (try simp only [fX5_within, bz_0] at c_2 c_4 c_5 c_10 c_11); simp only [Int32.le_iff_toInt_le, Int32.lt_iff_toInt_lt, ← Int32.toInt_inj, Int32.toInt_add, Int32.toInt_sub, Int32.toInt_mul, Int.bmod_def, Int32.reduceToInt] at c_2 c_4 c_5 c_10 c_11 ⊢; omega)) rfl rfl dX2_putPoint_53 ?_
            refine lv_iload_n (pc := 54) hx hb dX2_putPoint_54 rfl (lv_at hl 2 rfl) ?_
            refine lv_icmp_gt (tgt := 61) (pc := 55) hx hb dX2_putPoint_55 (by decide) (fun c_13 => ?_) (fun c_13 => ?_)
            · refine lv_aload_n (pc := 61) hx hb dX2_putPoint_61 rfl (lv_at hl 0 rfl) ?_
              refine g_get (v := .ref q1) (pc := 62) hx hb hts ii_X2_putPoint_X2 hown hK.1 hP 0 rfl rfl 0 (by decide) ⟨rfl, rfl, rfl⟩ mm_X2_putPoint_2 rfl dX2_putPoint_62 ?_
              refine lv_iload_n (pc := 65) hx hb dX2_putPoint_65 rfl (lv_at hl 1 rfl) ?_
              refine g_iald (j := (k).toNatClampNeg) (v := (C ((k).toNatClampNeg))) (pc := 66) hx hb hK.1 hP 1 0 rfl rfl (vp_in_iff.mpr (by subst er3; subst er1; (try simp only [fX5_within, bz_0] at c_2 c_4 c_5 c_10 c_11 c_13); simp only [Int32.le_iff_toInt_le, Int32.lt_iff_toInt_lt, ← Int32.toInt_inj, Int32.toInt_add, Int32.toInt_sub, Int32.toInt_mul, Int.bmod_def, Int32.reduceToInt] at c_2 c_4 c_5 c_10 c_11 c_13 ⊢; omega)) rfl rfl dX2_putPoint_66 ?_
              refine g_topi (fun x14 ex14 => ?_)
              refine lv_istore_n (lv' := [(3, .int x14), (0, .ref q0), (1, .int k), (2, .int v)]) (pc := 67) hx hb dX2_putPoint_67 rfl hl (by decide) rfl (fun ls hl => ?_)
              refine lv_aload_n (pc := 68) hx hb dX2_putPoint_68 rfl (lv_at hl 1 rfl) ?_
              refine g_get (v := .ref q1) (pc := 69) hx hb hts ii_X2_putPoint_X2 hown hK.1 hP 0 rfl rfl 0 (by decide) ⟨rfl, rfl, rfl⟩ mm_X2_putPoint_2 rfl dX2_putPoint_69 ?_
              refine lv_iload_n (pc := 72) hx hb dX2_putPoint_72 rfl (lv_at hl 2 rfl) ?_
              refine lv_iload_n (pc := 73) hx hb dX2_putPoint_73 rfl (lv_at hl 3 rfl) ?_
              refine g_iast (j := (k).toNatClampNeg) (w1 := [(q0, .inr (2, [.ref q1])), (q1, .inl (eI E, 11, .inl (upd C ((k).toNatClampNeg) v)))]) (pc := 74) hx hb hK.1 hP hD hS 1 0 rfl rfl (vp_in_iff.mpr (by subst ex14; subst er3; subst er1; (try simp only [fX5_within, bz_0] at c_2 c_4 c_5 c_10 c_11 c_13); simp only [Int32.le_iff_toInt_le, Int32.lt_iff_toInt_lt, ← Int32.toInt_inj, Int32.toInt_add, Int32.toInt_sub, Int32.toInt_mul, Int.bmod_def, Int32.reduceToInt] at c_2 c_4 c_5 c_10 c_11 c_13 ⊢; omega)) rfl rfl dX2_putPoint_74 (fun H locs hP hD hS => ?_)
              refine lv_iload_n (pc := 75) hx hb dX2_putPoint_75 rfl (lv_at hl 0 rfl) ?_
              subst ex14
              subst er3
              subst er1
              have hfn : fX2_putPoint C k v = _ := (if_neg c_2).trans ((if_neg c_4).trans ((if_neg c_5).trans ((if_neg c_10).trans ((if_neg c_11).trans (if_pos c_13)))))
              rw [hfn] at hQ
              exact hQ _ _ _ _ _ rfl hP hD hS dX2_putPoint_76
            · refine lv_ldc (v := (-10000003)) (pc := 58) hx hb hown (hts _ mm_X2_putPoint_3) dX2_putPoint_58 ?_
              subst er3
              subst er1
              have hfn : fX2_putPoint C k v = _ := (if_neg c_2).trans ((if_neg c_4).trans ((if_neg c_5).trans ((if_neg c_10).trans ((if_neg c_11).trans (if_neg c_13)))))
              rw [hfn] at hQ
              exact hQ _ _ _ _ _ rfl hP hD hS dX2_putPoint_60
    · refine lv_ldc (v := (-10000002)) (pc := 21) hx hb hown (hts _ mm_X2_putPoint_1) dX2_putPoint_21 ?_
      subst er3
      subst er1
      have hfn : fX2_putPoint C k v = _ := (if_neg c_2).trans (if_pos c_4)
      rw [hfn] at hQ
      exact hQ _ _ _ _ _ rfl hP hD hS dX2_putPoint_23

def fX2_voltsAt (C : Nat → Int32) (v : Int32) : Int32 :=
  if v < 0 then
    (-10000002)
  else
    if v ≤ 1000 then
      let x4 : Int32 := (if v = 1000 then 9 else (v / 100))
      (C ((x4).toNatClampNeg)) + ((((C ((x4 + 1).toNatClampNeg)) - (C ((x4).toNatClampNeg))) * (v - (100 * x4))) / 100)
    else
      (-10000002)
abbrev rX2_voltsAt : Room := { frames := 0, cells := 0, slots := 0, locals := 0 }
theorem mm_X2_voltsAt_1 : Cond.constant RX2 25 (-10000002) ∈ wsX2_voltsAt := List.mem_of_getElem? (i := 1) rfl
theorem mm_X2_voltsAt_2 : Cond.fieldLink RX2 11 "GaugeBounds$Curve" "points" "[I" ∈ wsX2_voltsAt := List.mem_of_getElem? (i := 2) rfl
theorem ii_X2_voltsAt_X2 : ∀ w ∈ wsX20, w ∈ wsX2_voltsAt := fun _ h => List.mem_cons_of_mem _ (List.mem_append_right _ (h))
theorem qvX2_voltsAt : yX2_voltsAt.cls = RX2 ∧ yX2_voltsAt.cls ≠ "java/lang/invoke/MethodHandle" ∧ yX2_voltsAt.cls ≠ "java/lang/invoke/VarHandle" ∧ (parseMethodDescriptor yX2_voltsAt.desc).map (fun d => d.parameters.length) = some 1 := by decide +kernel
set_option maxHeartbeats 4000000 in
set_option maxRecDepth 100000 in
theorem kX2_voltsAt (l : Launch) (E : gEnv) (q0 q1 : Nat) (C : Nat → Int32) (v : Int32) : gMi l E yX2_voltsAt wsX2_voltsAt rX2_voltsAt [.ref q0, .int v] (wCu E q0 q1 C) (fX2_voltsAt C v) (wCu E q0 q1 C) := by
  refine gMi_of (cc := cX2_voltsAt) (maxL := 3) (ret := (some .int)) (by decide) rfl rfl (Nat.le_of_ble_eq_true rfl) ?_
  intro p e s m args below meth c A Q ls hB hQ
  obtain ⟨hx, hb, hml, hown, hts, hK, hP, hD, hA, hS, hl⟩ := hB
  have hown : s.vm.findClass RX2 = some m.cls := hown
  have hP : va_P E.1 vwCl [(q0, .inr (2, [.ref q1])), (q1, .inl (eI E, 11, .inl C))] s.heap := hP
  have hD : va_D A [(q0, .inr (2, [.ref q1])), (q1, .inl (eI E, 11, .inl C))] := hD
  have hl : lv_has ls 3 [(0, .ref q0), (1, .int v)] := hl
  refine lv_iload_n (pc := 0) hx hb dX2_voltsAt_0 rfl (lv_at hl 1 rfl) ?_
  refine lv_if_lt (tgt := 11) (pc := 1) hx hb dX2_voltsAt_1 (by decide) (fun c_1 => ?_) (fun c_1 => ?_)
  · refine lv_ldc (v := (-10000002)) (pc := 11) hx hb hown (hts _ mm_X2_voltsAt_1) dX2_voltsAt_11 ?_
    have hfn : fX2_voltsAt C v = _ := if_pos c_1
    rw [hfn] at hQ
    exact hQ _ _ _ _ _ rfl hP hD hS dX2_voltsAt_13
  · refine lv_iload_n (pc := 4) hx hb dX2_voltsAt_4 rfl (lv_at hl 1 rfl) ?_
    refine lv_sipush (v := 1000) (pc := 5) hx hb dX2_voltsAt_5 rfl ?_
    refine lv_icmp_le (tgt := 14) (pc := 8) hx hb dX2_voltsAt_8 (by decide) (fun c_2 => ?_) (fun c_2 => ?_)
    · refine lv_iload_n (pc := 14) hx hb dX2_voltsAt_14 rfl (lv_at hl 1 rfl) ?_
      refine lv_sipush (v := 1000) (pc := 15) hx hb dX2_voltsAt_15 rfl ?_
      have J_5 : ∀ (H : Heap) (locs : List Loc) (ls : Array Slot) (x4 : Int32), (if v = 1000 then 9 else (v / 100)) = x4 → va_P E.1 vwCl [(q0, .inr (2, [.ref q1])), (q1, .inl (eI E, 11, .inl C))] H → va_D A [(q0, .inr (2, [.ref q1])), (q1, .inl (eI E, 11, .inl C))] → va_S A s.heap H locs → lv_has ls 3 [(0, .ref q0), (1, .int v)] → W p l e rX2_voltsAt s m args below meth c H locs 0 0 Q (F0 m 30 ls [.int x4]) := by
        intro H locs ls x4 ex4 hP hD hS hl
        refine lv_istore_n (lv' := [(2, .int x4), (0, .ref q0), (1, .int v)]) (pc := 30) hx hb dX2_voltsAt_30 rfl hl (by decide) rfl (fun ls hl => ?_)
        refine lv_aload_n (pc := 31) hx hb dX2_voltsAt_31 rfl (lv_at hl 1 rfl) ?_
        refine g_get (v := .ref q1) (pc := 32) hx hb hts ii_X2_voltsAt_X2 hown hK.1 hP 0 rfl rfl 0 (by decide) ⟨rfl, rfl, rfl⟩ mm_X2_voltsAt_2 rfl dX2_voltsAt_32 ?_
        refine lv_iload_n (pc := 35) hx hb dX2_voltsAt_35 rfl (lv_at hl 0 rfl) ?_
        refine g_iald (j := (x4).toNatClampNeg) (v := (C ((x4).toNatClampNeg))) (pc := 36) hx hb hK.1 hP 1 0 rfl rfl (ix_volts0 (ix_volts c_1 c_2 ex4.symm)) rfl rfl dX2_voltsAt_36 ?_
        refine lv_aload_n (pc := 37) hx hb dX2_voltsAt_37 rfl (lv_at hl 1 rfl) ?_
        refine g_get (v := .ref q1) (pc := 38) hx hb hts ii_X2_voltsAt_X2 hown hK.1 hP 0 rfl rfl 0 (by decide) ⟨rfl, rfl, rfl⟩ mm_X2_voltsAt_2 rfl dX2_voltsAt_38 ?_
        refine lv_iload_n (pc := 41) hx hb dX2_voltsAt_41 rfl (lv_at hl 0 rfl) ?_
        refine lv_iconst (v := 1) (pc := 42) hx hb dX2_voltsAt_42 rfl ?_
        refine lv_iadd (pc := 43) hx hb dX2_voltsAt_43 ?_
        refine g_iald (j := (x4 + 1).toNatClampNeg) (v := (C ((x4 + 1).toNatClampNeg))) (pc := 44) hx hb hK.1 hP 1 0 rfl rfl (ix_volts1 (ix_volts c_1 c_2 ex4.symm)) rfl rfl dX2_voltsAt_44 ?_
        refine lv_aload_n (pc := 45) hx hb dX2_voltsAt_45 rfl (lv_at hl 1 rfl) ?_
        refine g_get (v := .ref q1) (pc := 46) hx hb hts ii_X2_voltsAt_X2 hown hK.1 hP 0 rfl rfl 0 (by decide) ⟨rfl, rfl, rfl⟩ mm_X2_voltsAt_2 rfl dX2_voltsAt_46 ?_
        refine lv_iload_n (pc := 49) hx hb dX2_voltsAt_49 rfl (lv_at hl 0 rfl) ?_
        refine g_iald (j := (x4).toNatClampNeg) (v := (C ((x4).toNatClampNeg))) (pc := 50) hx hb hK.1 hP 1 0 rfl rfl (ix_volts0 (ix_volts c_1 c_2 ex4.symm)) rfl rfl dX2_voltsAt_50 ?_
        refine lv_isub (pc := 51) hx hb dX2_voltsAt_51 ?_
        refine lv_iload_n (pc := 52) hx hb dX2_voltsAt_52 rfl (lv_at hl 2 rfl) ?_
        refine lv_bipush (v := 100) (pc := 53) hx hb dX2_voltsAt_53 rfl ?_
        refine lv_iload_n (pc := 55) hx hb dX2_voltsAt_55 rfl (lv_at hl 0 rfl) ?_
        refine lv_imul (pc := 56) hx hb dX2_voltsAt_56 ?_
        refine lv_isub (pc := 57) hx hb dX2_voltsAt_57 ?_
        refine lv_imul (pc := 58) hx hb dX2_voltsAt_58 ?_
        refine lv_bipush (v := 100) (pc := 59) hx hb dX2_voltsAt_59 rfl ?_
        refine lv_idiv (pc := 61) hx hb dX2_voltsAt_61 (by decide) ?_
        refine lv_iadd (pc := 62) hx hb dX2_voltsAt_62 ?_
        subst ex4
        have hfn : fX2_voltsAt C v = _ := (if_neg c_1).trans (if_pos c_2)
        rw [hfn] at hQ
        exact hQ _ _ _ _ _ rfl hP hD hS dX2_voltsAt_63
      refine lv_icmp_ne (tgt := 26) (pc := 18) hx hb dX2_voltsAt_18 (by decide) (fun c_3 => ?_) (fun c_3 => ?_)
      · refine lv_iload_n (pc := 26) hx hb dX2_voltsAt_26 rfl (lv_at hl 1 rfl) ?_
        refine lv_bipush (v := 100) (pc := 27) hx hb dX2_voltsAt_27 rfl ?_
        refine lv_idiv (pc := 29) hx hb dX2_voltsAt_29 (by decide) ?_
        exact J_5 _ _ _ _ (if_neg c_3) hP hD hS (lv_sub hl [0, 1] rfl)
      · refine lv_bipush (v := 9) (pc := 21) hx hb dX2_voltsAt_21 rfl ?_
        refine lv_goto (tgt := 30) (pc := 23) hx hb dX2_voltsAt_23 (by decide) ?_
        exact J_5 _ _ _ _ (if_pos c_3) hP hD hS (lv_sub hl [0, 1] rfl)
    · refine lv_ldc (v := (-10000002)) (pc := 11) hx hb hown (hts _ mm_X2_voltsAt_1) dX2_voltsAt_11 ?_
      have hfn : fX2_voltsAt C v = _ := (if_neg c_1).trans (if_neg c_2)
      rw [hfn] at hQ
      exact hQ _ _ _ _ _ rfl hP hD hS dX2_voltsAt_13

def fPB (C : Nat → Int32) (v : Int32) : Nat → Int32 → Int32 → Int32
  | 0, _, q => q
  | n + 1, z, q => fPB C v n (z / 2) (if 1001 < q + z then q else (if v ≤ fX2_voltsAt C (q + z - 1) then q else q + z))
def fX2_placesBelow (C : Nat → Int32) (v : Int32) : Int32 := fPB C v 10 512 0
theorem pb_pos {n : Nat} (h : n < 10) : ¬ nI (2 ^ n) ≤ 0 := nI_nle (Nat.pow_pos (by decide)) (Nat.lt_of_lt_of_le (Nat.pow_lt_pow_right (by decide) h) (by decide))
theorem pb_half {n : Nat} (h : n < 10) : nI (2 ^ n) / 2 = nI (2 ^ n / 2) := pk_div (a := 2 ^ n) (d := 2) (Nat.lt_of_lt_of_le (Nat.pow_lt_pow_right (by decide) h) (by decide)) (by decide) (by decide)

abbrev rX2_placesBelow : Room := { frames := 1, cells := 0, slots := 0, locals := 22 }
theorem qvX2_placesBelow : yX2_placesBelow.cls = RX2 ∧ yX2_placesBelow.cls ≠ "java/lang/invoke/MethodHandle" ∧ yX2_placesBelow.cls ≠ "java/lang/invoke/VarHandle" ∧ (parseMethodDescriptor yX2_placesBelow.desc).map (fun d => d.parameters.length) = some 1 := by decide +kernel
set_option maxHeartbeats 4000000 in
set_option maxRecDepth 100000 in
theorem kX2_placesBelow (l : Launch) (E : gEnv) (q0 q1 : Nat) (C : Nat → Int32) (v : Int32) : gMi l E yX2_placesBelow wsX2_placesBelow rX2_placesBelow [.ref q0, .int v] (wCu E q0 q1 C) (fX2_placesBelow C v) (wCu E q0 q1 C) := by
  refine gMi_of (cc := cX2_placesBelow) (maxL := 5) (ret := (some .int)) (by decide) rfl rfl (Nat.le_of_ble_eq_true rfl) ?_
  intro p e s m args below meth c A Q ls hB hQ
  obtain ⟨hx, hb, hml, hown, hts, hK, hP, hD, hA, hS, hl⟩ := hB
  have hown : s.vm.findClass RX2 = some m.cls := hown
  have hP : va_P E.1 vwCl [(q0, .inr (2, [.ref q1])), (q1, .inl (eI E, 11, .inl C))] s.heap := hP
  have hD : va_D A [(q0, .inr (2, [.ref q1])), (q1, .inl (eI E, 11, .inl C))] := hD
  have hl : lv_has ls 5 [(0, .ref q0), (1, .int v)] := hl
  refine lv_iconst (v := 0) (pc := 0) hx hb dX2_placesBelow_0 rfl ?_
  refine lv_istore_n (lv' := [(2, .int 0), (0, .ref q0), (1, .int v)]) (pc := 1) hx hb dX2_placesBelow_1 rfl hl (by decide) rfl (fun ls hl => ?_)
  refine lv_sipush (v := 512) (pc := 2) hx hb dX2_placesBelow_2 rfl ?_
  refine lv_istore_n (lv' := [(3, .int 512), (2, .int 0), (0, .ref q0), (1, .int v)]) (pc := 5) hx hb dX2_placesBelow_5 rfl hl (by decide) rfl (fun ls hl => ?_)
  have loop : ∀ (n : Nat), n ≤ 10 → ∀ (q : Int32), fPB C v n (nI (2 ^ n / 2)) q = fX2_placesBelow C v → ∀ (H : Heap) (locs : List Loc) (ls : Array Slot), va_P E.1 vwCl [(q0, .inr (2, [.ref q1])), (q1, .inl (eI E, 11, .inl C))] H → va_D A [(q0, .inr (2, [.ref q1])), (q1, .inl (eI E, 11, .inl C))] → va_S A s.heap H locs → lv_has ls 5 [(0, .ref q0), (1, .int v), (2, .int q), (3, .int (nI (2 ^ n / 2)))] → W p l e rX2_placesBelow s m args below meth c H locs 0 0 Q (F0 m 6 ls []) := by
    intro n
    induction n with
    | zero =>
      intro hn q hq H locs ls hP hD hS hl
      refine lv_iload_n (pc := 6) hx hb dX2_placesBelow_6 rfl (lv_at hl 3 rfl) ?_
      refine lv_if_le (tgt := 45) (pc := 7) hx hb dX2_placesBelow_7 (by decide) (fun c_1 => ?_) (fun c_1 => ?_)
      rotate_left
      · exact absurd (by decide : nI (2 ^ 0 / 2) ≤ 0) c_1
      refine lv_iload_n (pc := 45) hx hb dX2_placesBelow_45 rfl (lv_at hl 2 rfl) ?_
      rw [← hq] at hQ
      exact hQ _ _ _ _ _ rfl hP hD hS dX2_placesBelow_46
    | succ n ih =>
      intro hn q hq H locs ls hP hD hS hl
      have en : 2 ^ (n + 1) / 2 = 2 ^ n := by rw [Nat.pow_succ]; omega
      rw [en] at hl hq
      refine lv_iload_n (pc := 6) hx hb dX2_placesBelow_6 rfl (lv_at hl 3 rfl) ?_
      refine lv_if_le (tgt := 45) (pc := 7) hx hb dX2_placesBelow_7 (by decide) (fun c_2 => ?_) (fun c_2 => ?_)
      · exact absurd c_2 (pb_pos (by omega))
      refine lv_iload_n (pc := 10) hx hb dX2_placesBelow_10 rfl (lv_at hl 2 rfl) ?_
      refine lv_iload_n (pc := 11) hx hb dX2_placesBelow_11 rfl (lv_at hl 3 rfl) ?_
      refine lv_iadd (pc := 12) hx hb dX2_placesBelow_12 ?_
      refine g_topi (fun x3 ex3 => ?_)
      refine lv_istore (lv' := [(4, .int x3), (0, .ref q0), (1, .int v), (2, .int q), (3, .int (nI (2 ^ n)))]) (pc := 13) hx hb dX2_placesBelow_13 hl (by decide) rfl (fun ls hl => ?_)
      refine lv_iload (pc := 15) hx hb dX2_placesBelow_15 (lv_at hl 0 rfl) ?_
      refine lv_sipush (v := 1001) (pc := 17) hx hb dX2_placesBelow_17 rfl ?_
      have J_6 : ∀ (H : Heap) (locs : List Loc) (ls : Array Slot) (x5 : Int32), (if 1001 < x3 then q else (let r5 : Int32 := fX2_voltsAt C (x3 - 1); (if v ≤ r5 then q else x3))) = x5 → va_P E.1 vwCl [(q0, .inr (2, [.ref q1])), (q1, .inl (eI E, 11, .inl C))] H → va_D A [(q0, .inr (2, [.ref q1])), (q1, .inl (eI E, 11, .inl C))] → va_S A s.heap H locs → lv_has ls 5 [(0, .ref q0), (1, .int v), (2, .int x5), (3, .int (nI (2 ^ n))), (4, .int x3)] → W p l e rX2_placesBelow s m args below meth c H locs 0 0 Q (F0 m 38 ls []) := by
        intro H locs ls x5 ex5 hP hD hS hl
        refine lv_iload_n (pc := 38) hx hb dX2_placesBelow_38 rfl (lv_at hl 3 rfl) ?_
        refine lv_iconst (v := 2) (pc := 39) hx hb dX2_placesBelow_39 rfl ?_
        refine lv_idiv (pc := 40) hx hb dX2_placesBelow_40 (by decide) ?_
        refine g_topi (fun x7 ex7 => ?_)
        refine lv_istore_n (lv' := [(3, .int x7), (0, .ref q0), (1, .int v), (2, .int x5), (4, .int x3)]) (pc := 41) hx hb dX2_placesBelow_41 rfl hl (by decide) rfl (fun ls hl => ?_)
        refine lv_goto (tgt := 6) (pc := 42) hx hb dX2_placesBelow_42 (by decide) ?_
        subst ex7
        subst ex5
        subst ex3
        rw [pb_half (by omega)] at hl
        refine ih (by omega) _ ?_ _ _ _ hP hD hS (lv_sub hl [1, 2, 3, 0] rfl)
        rw [← pb_half (by omega)]
        exact hq
      refine lv_icmp_gt (tgt := 38) (pc := 20) hx hb dX2_placesBelow_20 (by decide) (fun c_4 => ?_) (fun c_4 => ?_)
      · exact J_6 _ _ _ _ (if_pos c_4) hP hD hS (lv_sub hl [1, 2, 3, 4, 0] rfl)
      · refine lv_aload_n (pc := 23) hx hb dX2_placesBelow_23 rfl (lv_at hl 1 rfl) ?_
        refine lv_iload (pc := 24) hx hb dX2_placesBelow_24 (lv_at hl 0 rfl) ?_
        refine lv_iconst (v := 1) (pc := 26) hx hb dX2_placesBelow_26 rfl ?_
        refine lv_isub (pc := 27) hx hb dX2_placesBelow_27 ?_
        obtain ⟨r5, er5⟩ : ∃ z : Int32, fX2_voltsAt C (x3 - 1) = z := ⟨_, rfl⟩
        have hr5 := kX2_voltsAt l E q0 q1 C (x3 - 1)
        rw [er5] at hr5
        refine gcVi (pc := 28) (w1 := [(q0, .inr (2, [.ref q1])), (q1, .inl (eI E, 11, .inl C))]) (pre := []) (post := []) (As := [.int (x3 - 1)]) (rest := []) (q0 := 0) ⟨hx, hb, hml, hown, hts⟩ hr5 (cwV 1 hts gX2_placesBelow_X2_voltsAt rfl rfl rfl qvX2_voltsAt ⟨Nat.le_of_ble_eq_true rfl, Nat.le_of_ble_eq_true rfl⟩) hK hP hD hS hA rfl rfl rfl rfl rfl hl.1 rfl (Nat.le_of_ble_eq_true rfl) dX2_placesBelow_28 ⟨Nat.zero_le _, Nat.zero_le _⟩ (fun H locs hP hD hS => ?_)
        refine lv_iload_n (pc := 31) hx hb dX2_placesBelow_31 rfl (lv_at hl 2 rfl) ?_
        refine lv_icmp_ge (tgt := 38) (pc := 32) hx hb dX2_placesBelow_32 (by decide) (fun c_6 => ?_) (fun c_6 => ?_)
        · subst er5
          exact J_6 _ _ _ _ ((if_neg c_4).trans (if_pos c_6)) hP hD hS (lv_sub hl [1, 2, 3, 4, 0] rfl)
        · refine lv_iload (pc := 35) hx hb dX2_placesBelow_35 (lv_at hl 0 rfl) ?_
          refine lv_istore_n (lv' := [(2, .int x3), (4, .int x3), (0, .ref q0), (1, .int v), (3, .int (nI (2 ^ n)))]) (pc := 37) hx hb dX2_placesBelow_37 rfl hl (by decide) rfl (fun ls hl => ?_)
          subst er5
          exact J_6 _ _ _ _ ((if_neg c_4).trans (if_neg c_6)) hP hD hS (lv_sub hl [2, 3, 0, 4, 1] rfl)
  exact loop 10 (Nat.le_refl 10) 0 rfl _ _ _ hP hD hS (lv_sub hl [2, 3, 1, 0] rfl)

def fX2_leastReaching (C : Nat → Int32) (v : Int32) : Int32 :=
  let r1 : Int32 := fX2_placesBelow C v
  let x3 : Int32 := (if r1 ≤ 1000 then r1 else (-10000001))
  x3
abbrev rX2_leastReaching : Room := { frames := 2, cells := 0, slots := 0, locals := 46 }
theorem mm_X2_leastReaching_1 : Cond.constant RX2 31 (-10000001) ∈ wsX2_leastReaching := List.mem_of_getElem? (i := 1) rfl
theorem qvX2_leastReaching : yX2_leastReaching.cls = RX2 ∧ yX2_leastReaching.cls ≠ "java/lang/invoke/MethodHandle" ∧ yX2_leastReaching.cls ≠ "java/lang/invoke/VarHandle" ∧ (parseMethodDescriptor yX2_leastReaching.desc).map (fun d => d.parameters.length) = some 1 := by decide +kernel
set_option maxHeartbeats 4000000 in
set_option maxRecDepth 100000 in
theorem kX2_leastReaching (l : Launch) (E : gEnv) (q0 q1 : Nat) (C : Nat → Int32) (v : Int32) : gMi l E yX2_leastReaching wsX2_leastReaching rX2_leastReaching [.ref q0, .int v] (wCu E q0 q1 C) (fX2_leastReaching C v) (wCu E q0 q1 C) := by
  refine gMi_of (cc := cX2_leastReaching) (maxL := 3) (ret := (some .int)) (by decide) rfl rfl (Nat.le_of_ble_eq_true rfl) ?_
  intro p e s m args below meth c A Q ls hB hQ
  obtain ⟨hx, hb, hml, hown, hts, hK, hP, hD, hA, hS, hl⟩ := hB
  have hown : s.vm.findClass RX2 = some m.cls := hown
  have hP : va_P E.1 vwCl [(q0, .inr (2, [.ref q1])), (q1, .inl (eI E, 11, .inl C))] s.heap := hP
  have hD : va_D A [(q0, .inr (2, [.ref q1])), (q1, .inl (eI E, 11, .inl C))] := hD
  have hl : lv_has ls 3 [(0, .ref q0), (1, .int v)] := hl
  refine lv_aload_n (pc := 0) hx hb dX2_leastReaching_0 rfl (lv_at hl 0 rfl) ?_
  refine lv_iload_n (pc := 1) hx hb dX2_leastReaching_1 rfl (lv_at hl 1 rfl) ?_
  obtain ⟨r1, er1⟩ : ∃ z : Int32, fX2_placesBelow C v = z := ⟨_, rfl⟩
  have hr1 := kX2_placesBelow l E q0 q1 C v
  rw [er1] at hr1
  refine gcVi (pc := 2) (w1 := [(q0, .inr (2, [.ref q1])), (q1, .inl (eI E, 11, .inl C))]) (pre := []) (post := []) (As := [.int v]) (rest := []) (q0 := 0) ⟨hx, hb, hml, hown, hts⟩ hr1 (cwV 1 hts gX2_leastReaching_X2_placesBelow rfl rfl rfl qvX2_placesBelow ⟨Nat.le_of_ble_eq_true rfl, Nat.le_of_ble_eq_true rfl⟩) hK hP hD hS hA rfl rfl rfl rfl rfl hl.1 rfl (Nat.le_of_ble_eq_true rfl) dX2_leastReaching_2 ⟨Nat.zero_le _, Nat.zero_le _⟩ (fun H locs hP hD hS => ?_)
  refine lv_istore_n (lv' := [(2, .int r1), (0, .ref q0), (1, .int v)]) (pc := 5) hx hb dX2_leastReaching_5 rfl hl (by decide) rfl (fun ls hl => ?_)
  refine lv_iload_n (pc := 6) hx hb dX2_leastReaching_6 rfl (lv_at hl 0 rfl) ?_
  refine lv_sipush (v := 1000) (pc := 7) hx hb dX2_leastReaching_7 rfl ?_
  have J_4 : ∀ (H : Heap) (locs : List Loc) (ls : Array Slot) (x3 : Int32), (if r1 ≤ 1000 then r1 else (-10000001)) = x3 → va_P E.1 vwCl [(q0, .inr (2, [.ref q1])), (q1, .inl (eI E, 11, .inl C))] H → va_D A [(q0, .inr (2, [.ref q1])), (q1, .inl (eI E, 11, .inl C))] → va_S A s.heap H locs → lv_has ls 3 [(0, .ref q0), (1, .int v), (2, .int r1)] → W p l e rX2_leastReaching s m args below meth c H locs 0 0 Q (F0 m 19 ls [.int x3]) := by
    intro H locs ls x3 ex3 hP hD hS hl
    subst ex3
    subst er1
    exact hQ _ _ _ _ _ rfl hP hD hS dX2_leastReaching_19
  refine lv_icmp_le (tgt := 18) (pc := 10) hx hb dX2_leastReaching_10 (by decide) (fun c_2 => ?_) (fun c_2 => ?_)
  · refine lv_iload_n (pc := 18) hx hb dX2_leastReaching_18 rfl (lv_at hl 0 rfl) ?_
    exact J_4 _ _ _ _ (if_pos c_2) hP hD hS (lv_sub hl [1, 2, 0] rfl)
  · refine lv_ldc (v := (-10000001)) (pc := 13) hx hb hown (hts _ mm_X2_leastReaching_1) dX2_leastReaching_13 ?_
    refine lv_goto (tgt := 19) (pc := 15) hx hb dX2_leastReaching_15 (by decide) ?_
    exact J_4 _ _ _ _ (if_neg c_2) hP hD hS (lv_sub hl [1, 2, 0] rfl)

def fX2_greatestWithin (C : Nat → Int32) (v : Int32) : Int32 :=
  let r1 : Int32 := fX2_placesBelow C (v + 1)
  let x3 : Int32 := (if r1 = 0 then (-10000001) else (r1 - 1))
  x3
abbrev rX2_greatestWithin : Room := { frames := 2, cells := 0, slots := 0, locals := 46 }
theorem mm_X2_greatestWithin_1 : Cond.constant RX2 31 (-10000001) ∈ wsX2_greatestWithin := List.mem_of_getElem? (i := 1) rfl
theorem qvX2_greatestWithin : yX2_greatestWithin.cls = RX2 ∧ yX2_greatestWithin.cls ≠ "java/lang/invoke/MethodHandle" ∧ yX2_greatestWithin.cls ≠ "java/lang/invoke/VarHandle" ∧ (parseMethodDescriptor yX2_greatestWithin.desc).map (fun d => d.parameters.length) = some 1 := by decide +kernel
set_option maxHeartbeats 4000000 in
set_option maxRecDepth 100000 in
theorem kX2_greatestWithin (l : Launch) (E : gEnv) (q0 q1 : Nat) (C : Nat → Int32) (v : Int32) : gMi l E yX2_greatestWithin wsX2_greatestWithin rX2_greatestWithin [.ref q0, .int v] (wCu E q0 q1 C) (fX2_greatestWithin C v) (wCu E q0 q1 C) := by
  refine gMi_of (cc := cX2_greatestWithin) (maxL := 3) (ret := (some .int)) (by decide) rfl rfl (Nat.le_of_ble_eq_true rfl) ?_
  intro p e s m args below meth c A Q ls hB hQ
  obtain ⟨hx, hb, hml, hown, hts, hK, hP, hD, hA, hS, hl⟩ := hB
  have hown : s.vm.findClass RX2 = some m.cls := hown
  have hP : va_P E.1 vwCl [(q0, .inr (2, [.ref q1])), (q1, .inl (eI E, 11, .inl C))] s.heap := hP
  have hD : va_D A [(q0, .inr (2, [.ref q1])), (q1, .inl (eI E, 11, .inl C))] := hD
  have hl : lv_has ls 3 [(0, .ref q0), (1, .int v)] := hl
  refine lv_aload_n (pc := 0) hx hb dX2_greatestWithin_0 rfl (lv_at hl 0 rfl) ?_
  refine lv_iload_n (pc := 1) hx hb dX2_greatestWithin_1 rfl (lv_at hl 1 rfl) ?_
  refine lv_iconst (v := 1) (pc := 2) hx hb dX2_greatestWithin_2 rfl ?_
  refine lv_iadd (pc := 3) hx hb dX2_greatestWithin_3 ?_
  obtain ⟨r1, er1⟩ : ∃ z : Int32, fX2_placesBelow C (v + 1) = z := ⟨_, rfl⟩
  have hr1 := kX2_placesBelow l E q0 q1 C (v + 1)
  rw [er1] at hr1
  refine gcVi (pc := 4) (w1 := [(q0, .inr (2, [.ref q1])), (q1, .inl (eI E, 11, .inl C))]) (pre := []) (post := []) (As := [.int (v + 1)]) (rest := []) (q0 := 0) ⟨hx, hb, hml, hown, hts⟩ hr1 (cwV 1 hts gX2_greatestWithin_X2_placesBelow rfl rfl rfl qvX2_placesBelow ⟨Nat.le_of_ble_eq_true rfl, Nat.le_of_ble_eq_true rfl⟩) hK hP hD hS hA rfl rfl rfl rfl rfl hl.1 rfl (Nat.le_of_ble_eq_true rfl) dX2_greatestWithin_4 ⟨Nat.zero_le _, Nat.zero_le _⟩ (fun H locs hP hD hS => ?_)
  refine lv_istore_n (lv' := [(2, .int r1), (0, .ref q0), (1, .int v)]) (pc := 7) hx hb dX2_greatestWithin_7 rfl hl (by decide) rfl (fun ls hl => ?_)
  refine lv_iload_n (pc := 8) hx hb dX2_greatestWithin_8 rfl (lv_at hl 0 rfl) ?_
  have J_4 : ∀ (H : Heap) (locs : List Loc) (ls : Array Slot) (x3 : Int32), (if r1 = 0 then (-10000001) else (r1 - 1)) = x3 → va_P E.1 vwCl [(q0, .inr (2, [.ref q1])), (q1, .inl (eI E, 11, .inl C))] H → va_D A [(q0, .inr (2, [.ref q1])), (q1, .inl (eI E, 11, .inl C))] → va_S A s.heap H locs → lv_has ls 3 [(0, .ref q0), (1, .int v), (2, .int r1)] → W p l e rX2_greatestWithin s m args below meth c H locs 0 0 Q (F0 m 20 ls [.int x3]) := by
    intro H locs ls x3 ex3 hP hD hS hl
    subst ex3
    subst er1
    exact hQ _ _ _ _ _ rfl hP hD hS dX2_greatestWithin_20
  refine lv_if_ne (tgt := 17) (pc := 9) hx hb dX2_greatestWithin_9 (by decide) (fun c_2 => ?_) (fun c_2 => ?_)
  · refine lv_iload_n (pc := 17) hx hb dX2_greatestWithin_17 rfl (lv_at hl 0 rfl) ?_
    refine lv_iconst (v := 1) (pc := 18) hx hb dX2_greatestWithin_18 rfl ?_
    refine lv_isub (pc := 19) hx hb dX2_greatestWithin_19 ?_
    exact J_4 _ _ _ _ (if_neg c_2) hP hD hS (lv_sub hl [1, 2, 0] rfl)
  · refine lv_ldc (v := (-10000001)) (pc := 12) hx hb hown (hts _ mm_X2_greatestWithin_1) dX2_greatestWithin_12 ?_
    refine lv_goto (tgt := 20) (pc := 14) hx hb dX2_greatestWithin_14 (by decide) ?_
    exact J_4 _ _ _ _ (if_pos c_2) hP hD hS (lv_sub hl [1, 2, 0] rfl)

def fX0_add (S : Nat → Int64) (N : Nat → Int32) (sg : Int32) (tn : Int32) (v : Int32) : (Nat → Int64) × (Nat → Int32) :=
  let r1 : Int32 := fX0_isBand sg tn
  if r1 = 0 then
    (S, N)
  else
    let x3 : Int32 := (sg * 11) + tn
    let x4 : Int64 := (S ((x3).toNatClampNeg)) + v.toInt64
    let x5 : Int32 := (N ((x3).toNatClampNeg)) + 1
    ((vp_updL S ((x3).toNatClampNeg) x4), (upd N ((x3).toNatClampNeg) x5))
abbrev rX0_add : Room := { frames := 2, cells := 0, slots := 0, locals := 43 }
theorem mm_X0_add_1 : Cond.fieldLink RX0 11 "GaugeBounds$Bands" "sums" "[J" ∈ wsX0_add := List.mem_of_getElem? (i := 1) rfl
theorem mm_X0_add_2 : Cond.fieldLink RX0 15 "GaugeBounds$Bands" "counts" "[I" ∈ wsX0_add := List.mem_of_getElem? (i := 2) rfl
theorem ii_X0_add_X0 : ∀ w ∈ wsX00, w ∈ wsX0_add := fun _ h => List.mem_cons_of_mem _ (List.mem_append_right _ (h))
theorem qvX0_add : yX0_add.cls = RX0 ∧ yX0_add.cls ≠ "java/lang/invoke/MethodHandle" ∧ yX0_add.cls ≠ "java/lang/invoke/VarHandle" ∧ (parseMethodDescriptor yX0_add.desc).map (fun d => d.parameters.length) = some 3 := by decide +kernel
set_option maxHeartbeats 4000000 in
set_option maxRecDepth 100000 in
theorem kX0_add (l : Launch) (E : gEnv) (q0 q1 q2 : Nat) (S : Nat → Int64) (N : Nat → Int32) (sg : Int32) (tn : Int32) (v : Int32) : gMv l E yX0_add wsX0_add rX0_add [.ref q0, .int sg, .int tn, .int v] (wBn E q0 q1 q2 S N) (wBn E q0 q1 q2 ((fX0_add S N sg tn v).1) ((fX0_add S N sg tn v).2)) := by
  refine gMv_of (cc := cX0_add) (maxL := 5) (ret := none) (by decide) rfl rfl (Nat.le_of_ble_eq_true rfl) ?_
  intro p e s m args below meth c A Q ls hB hQ
  obtain ⟨hx, hb, hml, hown, hts, hK, hP, hD, hA, hS, hl⟩ := hB
  have hown : s.vm.findClass RX0 = some m.cls := hown
  have hP : va_P E.1 vwCl [(q0, .inr (0, [.ref q1, .ref q2])), (q1, .inl (eJ E, 22, .inr (.inl S))), (q2, .inl (eI E, 22, .inl N))] s.heap := hP
  have hD : va_D A [(q0, .inr (0, [.ref q1, .ref q2])), (q1, .inl (eJ E, 22, .inr (.inl S))), (q2, .inl (eI E, 22, .inl N))] := hD
  have hl : lv_has ls 5 [(0, .ref q0), (1, .int sg), (2, .int tn), (3, .int v)] := hl
  refine lv_iload_n (pc := 0) hx hb dX0_add_0 rfl (lv_at hl 1 rfl) ?_
  refine lv_iload_n (pc := 1) hx hb dX0_add_1 rfl (lv_at hl 2 rfl) ?_
  obtain ⟨r1, er1⟩ : ∃ z : Int32, fX0_isBand sg tn = z := ⟨_, rfl⟩
  have hr1 := kX0_isBand l E sg tn
  rw [er1] at hr1
  refine gcSi (pc := 2) (As := [.int sg, .int tn]) (rest := []) ⟨hx, hb, hml, hown, hts⟩ hr1 (cwS 2 hts gX0_add_X0_isBand rfl rfl rfl qsX0_isBand ⟨Nat.le_of_ble_eq_true rfl, Nat.le_of_ble_eq_true rfl⟩) hK hP hD hS hA rfl hl.1 rfl (Nat.le_of_ble_eq_true rfl) dX0_add_2 ⟨Nat.zero_le _, Nat.zero_le _⟩ (fun H locs hP hD hS => ?_)
  refine lv_if_eq (tgt := 39) (pc := 5) hx hb dX0_add_5 (by decide) (fun c_2 => ?_) (fun c_2 => ?_)
  · subst er1
    have hfn : fX0_add S N sg tn v = _ := if_pos c_2
    rw [hfn] at hQ
    exact hQ _ _ _ _ hP hD hS dX0_add_39
  · refine lv_iload_n (pc := 8) hx hb dX0_add_8 rfl (lv_at hl 1 rfl) ?_
    refine lv_bipush (v := 11) (pc := 9) hx hb dX0_add_9 rfl ?_
    refine lv_imul (pc := 11) hx hb dX0_add_11 ?_
    refine lv_iload_n (pc := 12) hx hb dX0_add_12 rfl (lv_at hl 2 rfl) ?_
    refine lv_iadd (pc := 13) hx hb dX0_add_13 ?_
    refine g_topi (fun x3 ex3 => ?_)
    refine lv_istore (lv' := [(4, .int x3), (0, .ref q0), (1, .int sg), (2, .int tn), (3, .int v)]) (pc := 14) hx hb dX0_add_14 hl (by decide) rfl (fun ls hl => ?_)
    refine lv_aload_n (pc := 16) hx hb dX0_add_16 rfl (lv_at hl 1 rfl) ?_
    refine g_get (v := .ref q1) (pc := 17) hx hb hts ii_X0_add_X0 hown hK.1 hP 0 rfl rfl 0 (by decide) ⟨rfl, rfl, rfl⟩ mm_X0_add_1 rfl dX0_add_17 ?_
    refine lv_iload (pc := 20) hx hb dX0_add_20 (lv_at hl 0 rfl) ?_
    refine lv_dup2_11 (pc := 22) hx hb dX0_add_22 rfl rfl ?_
    refine g_lald (j := (x3).toNatClampNeg) (v := (S ((x3).toNatClampNeg))) (pc := 23) hx hb hK.1 hP 1 1 rfl rfl (by subst ex3; subst er1; exact ix_band c_2) rfl rfl dX0_add_23 ?_
    refine lv_iload_n (pc := 24) hx hb dX0_add_24 rfl (lv_at hl 4 rfl) ?_
    refine lv_i2l (v := v.toInt64) (pc := 25) hx hb dX0_add_25 rfl ?_
    refine lv_ladd (pc := 26) hx hb dX0_add_26 ?_
    refine g_topl (fun x4 ex4 => ?_)
    refine g_last (j := (x3).toNatClampNeg) (w1 := [(q0, .inr (0, [.ref q1, .ref q2])), (q1, .inl (eJ E, 22, .inr (.inl (vp_updL S ((x3).toNatClampNeg) x4)))), (q2, .inl (eI E, 22, .inl N))]) (pc := 27) hx hb hK.1 hP hD hS 1 1 rfl rfl (by subst ex3; subst er1; exact ix_band c_2) rfl rfl dX0_add_27 (fun H locs hP hD hS => ?_)
    refine lv_aload_n (pc := 28) hx hb dX0_add_28 rfl (lv_at hl 1 rfl) ?_
    refine g_get (v := .ref q2) (pc := 29) hx hb hts ii_X0_add_X0 hown hK.1 hP 0 rfl rfl 1 (by decide) ⟨rfl, rfl, rfl⟩ mm_X0_add_2 rfl dX0_add_29 ?_
    refine lv_iload (pc := 32) hx hb dX0_add_32 (lv_at hl 0 rfl) ?_
    refine lv_dup2_11 (pc := 34) hx hb dX0_add_34 rfl rfl ?_
    refine g_iald (j := (x3).toNatClampNeg) (v := (N ((x3).toNatClampNeg))) (pc := 35) hx hb hK.1 hP 2 0 rfl rfl (by subst ex3; subst er1; exact ix_band c_2) rfl rfl dX0_add_35 ?_
    refine lv_iconst (v := 1) (pc := 36) hx hb dX0_add_36 rfl ?_
    refine lv_iadd (pc := 37) hx hb dX0_add_37 ?_
    refine g_topi (fun x5 ex5 => ?_)
    refine g_iast (j := (x3).toNatClampNeg) (w1 := [(q0, .inr (0, [.ref q1, .ref q2])), (q1, .inl (eJ E, 22, .inr (.inl (vp_updL S ((x3).toNatClampNeg) x4)))), (q2, .inl (eI E, 22, .inl (upd N ((x3).toNatClampNeg) x5)))]) (pc := 38) hx hb hK.1 hP hD hS 2 0 rfl rfl (by subst ex3; subst er1; exact ix_band c_2) rfl rfl dX0_add_38 (fun H locs hP hD hS => ?_)
    subst ex5
    subst ex4
    subst ex3
    subst er1
    have hfn : fX0_add S N sg tn v = _ := if_neg c_2
    rw [hfn] at hQ
    exact hQ _ _ _ _ hP hD hS dX0_add_39

def fX0_resistance (S : Nat → Int64) (N : Nat → Int32) (sg : Int32) (tn : Int32) : Int32 :=
  let r1 : Int32 := fX0_isBand sg tn
  if r1 = 0 then
    (-10000002)
  else
    let x3 : Int32 := (sg * 11) + tn
    let x5 : Int32 := (if (N ((x3).toNatClampNeg)) = 0 then (-10000001) else (((S ((x3).toNatClampNeg)) / ((N ((x3).toNatClampNeg)).toInt64)).toInt32))
    x5
abbrev rX0_resistance : Room := { frames := 2, cells := 0, slots := 0, locals := 43 }
theorem mm_X0_resistance_2 : Cond.fieldLink RX0 15 "GaugeBounds$Bands" "counts" "[I" ∈ wsX0_resistance := List.mem_of_getElem? (i := 2) rfl
theorem mm_X0_resistance_4 : Cond.fieldLink RX0 11 "GaugeBounds$Bands" "sums" "[J" ∈ wsX0_resistance := List.mem_of_getElem? (i := 4) rfl
theorem mm_X0_resistance_3 : Cond.constant RX0 30 (-10000001) ∈ wsX0_resistance := List.mem_of_getElem? (i := 3) rfl
theorem mm_X0_resistance_1 : Cond.constant RX0 29 (-10000002) ∈ wsX0_resistance := List.mem_of_getElem? (i := 1) rfl
theorem ii_X0_resistance_X0 : ∀ w ∈ wsX00, w ∈ wsX0_resistance := fun _ h => List.mem_cons_of_mem _ (List.mem_append_right _ (h))
theorem qvX0_resistance : yX0_resistance.cls = RX0 ∧ yX0_resistance.cls ≠ "java/lang/invoke/MethodHandle" ∧ yX0_resistance.cls ≠ "java/lang/invoke/VarHandle" ∧ (parseMethodDescriptor yX0_resistance.desc).map (fun d => d.parameters.length) = some 2 := by decide +kernel
set_option maxHeartbeats 4000000 in
set_option maxRecDepth 100000 in
theorem kX0_resistance (l : Launch) (E : gEnv) (q0 q1 q2 : Nat) (S : Nat → Int64) (N : Nat → Int32) (sg : Int32) (tn : Int32) : gMi l E yX0_resistance wsX0_resistance rX0_resistance [.ref q0, .int sg, .int tn] (wBn E q0 q1 q2 S N) (fX0_resistance S N sg tn) (wBn E q0 q1 q2 S N) := by
  refine gMi_of (cc := cX0_resistance) (maxL := 4) (ret := (some .int)) (by decide) rfl rfl (Nat.le_of_ble_eq_true rfl) ?_
  intro p e s m args below meth c A Q ls hB hQ
  obtain ⟨hx, hb, hml, hown, hts, hK, hP, hD, hA, hS, hl⟩ := hB
  have hown : s.vm.findClass RX0 = some m.cls := hown
  have hP : va_P E.1 vwCl [(q0, .inr (0, [.ref q1, .ref q2])), (q1, .inl (eJ E, 22, .inr (.inl S))), (q2, .inl (eI E, 22, .inl N))] s.heap := hP
  have hD : va_D A [(q0, .inr (0, [.ref q1, .ref q2])), (q1, .inl (eJ E, 22, .inr (.inl S))), (q2, .inl (eI E, 22, .inl N))] := hD
  have hl : lv_has ls 4 [(0, .ref q0), (1, .int sg), (2, .int tn)] := hl
  refine lv_iload_n (pc := 0) hx hb dX0_resistance_0 rfl (lv_at hl 1 rfl) ?_
  refine lv_iload_n (pc := 1) hx hb dX0_resistance_1 rfl (lv_at hl 2 rfl) ?_
  obtain ⟨r1, er1⟩ : ∃ z : Int32, fX0_isBand sg tn = z := ⟨_, rfl⟩
  have hr1 := kX0_isBand l E sg tn
  rw [er1] at hr1
  refine gcSi (pc := 2) (As := [.int sg, .int tn]) (rest := []) ⟨hx, hb, hml, hown, hts⟩ hr1 (cwS 2 hts gX0_resistance_X0_isBand rfl rfl rfl qsX0_isBand ⟨Nat.le_of_ble_eq_true rfl, Nat.le_of_ble_eq_true rfl⟩) hK hP hD hS hA rfl hl.1 rfl (Nat.le_of_ble_eq_true rfl) dX0_resistance_2 ⟨Nat.zero_le _, Nat.zero_le _⟩ (fun H locs hP hD hS => ?_)
  refine lv_if_ne (tgt := 11) (pc := 5) hx hb dX0_resistance_5 (by decide) (fun c_2 => ?_) (fun c_2 => ?_)
  · refine lv_iload_n (pc := 11) hx hb dX0_resistance_11 rfl (lv_at hl 1 rfl) ?_
    refine lv_bipush (v := 11) (pc := 12) hx hb dX0_resistance_12 rfl ?_
    refine lv_imul (pc := 14) hx hb dX0_resistance_14 ?_
    refine lv_iload_n (pc := 15) hx hb dX0_resistance_15 rfl (lv_at hl 2 rfl) ?_
    refine lv_iadd (pc := 16) hx hb dX0_resistance_16 ?_
    refine g_topi (fun x3 ex3 => ?_)
    refine lv_istore_n (lv' := [(3, .int x3), (0, .ref q0), (1, .int sg), (2, .int tn)]) (pc := 17) hx hb dX0_resistance_17 rfl hl (by decide) rfl (fun ls hl => ?_)
    refine lv_aload_n (pc := 18) hx hb dX0_resistance_18 rfl (lv_at hl 1 rfl) ?_
    refine g_get (v := .ref q2) (pc := 19) hx hb hts ii_X0_resistance_X0 hown hK.1 hP 0 rfl rfl 1 (by decide) ⟨rfl, rfl, rfl⟩ mm_X0_resistance_2 rfl dX0_resistance_19 ?_
    refine lv_iload_n (pc := 22) hx hb dX0_resistance_22 rfl (lv_at hl 0 rfl) ?_
    refine g_iald (j := (x3).toNatClampNeg) (v := (N ((x3).toNatClampNeg))) (pc := 23) hx hb hK.1 hP 2 0 rfl rfl (by subst ex3; subst er1; exact ix_band c_2) rfl rfl dX0_resistance_23 ?_
    have J_6 : ∀ (H : Heap) (locs : List Loc) (ls : Array Slot) (x5 : Int32), (if (N ((x3).toNatClampNeg)) = 0 then (-10000001) else (((S ((x3).toNatClampNeg)) / ((N ((x3).toNatClampNeg)).toInt64)).toInt32)) = x5 → va_P E.1 vwCl [(q0, .inr (0, [.ref q1, .ref q2])), (q1, .inl (eJ E, 22, .inr (.inl S))), (q2, .inl (eI E, 22, .inl N))] H → va_D A [(q0, .inr (0, [.ref q1, .ref q2])), (q1, .inl (eJ E, 22, .inr (.inl S))), (q2, .inl (eI E, 22, .inl N))] → va_S A s.heap H locs → lv_has ls 4 [(0, .ref q0), (1, .int sg), (2, .int tn), (3, .int x3)] → W p l e rX0_resistance s m args below meth c H locs 0 0 Q (F0 m 47 ls [.int x5]) := by
      intro H locs ls x5 ex5 hP hD hS hl
      subst ex5
      subst ex3
      subst er1
      have hfn : fX0_resistance S N sg tn = _ := if_neg c_2
      rw [hfn] at hQ
      exact hQ _ _ _ _ _ rfl hP hD hS dX0_resistance_47
    refine lv_if_ne (tgt := 32) (pc := 24) hx hb dX0_resistance_24 (by decide) (fun c_4 => ?_) (fun c_4 => ?_)
    · refine lv_aload_n (pc := 32) hx hb dX0_resistance_32 rfl (lv_at hl 1 rfl) ?_
      refine g_get (v := .ref q1) (pc := 33) hx hb hts ii_X0_resistance_X0 hown hK.1 hP 0 rfl rfl 0 (by decide) ⟨rfl, rfl, rfl⟩ mm_X0_resistance_4 rfl dX0_resistance_33 ?_
      refine lv_iload_n (pc := 36) hx hb dX0_resistance_36 rfl (lv_at hl 0 rfl) ?_
      refine g_lald (j := (x3).toNatClampNeg) (v := (S ((x3).toNatClampNeg))) (pc := 37) hx hb hK.1 hP 1 1 rfl rfl (by subst ex3; subst er1; exact ix_band c_2) rfl rfl dX0_resistance_37 ?_
      refine lv_aload_n (pc := 38) hx hb dX0_resistance_38 rfl (lv_at hl 1 rfl) ?_
      refine g_get (v := .ref q2) (pc := 39) hx hb hts ii_X0_resistance_X0 hown hK.1 hP 0 rfl rfl 1 (by decide) ⟨rfl, rfl, rfl⟩ mm_X0_resistance_2 rfl dX0_resistance_39 ?_
      refine lv_iload_n (pc := 42) hx hb dX0_resistance_42 rfl (lv_at hl 0 rfl) ?_
      refine g_iald (j := (x3).toNatClampNeg) (v := (N ((x3).toNatClampNeg))) (pc := 43) hx hb hK.1 hP 2 0 rfl rfl (by subst ex3; subst er1; exact ix_band c_2) rfl rfl dX0_resistance_43 ?_
      refine lv_i2l (v := (N ((x3).toNatClampNeg)).toInt64) (pc := 44) hx hb dX0_resistance_44 rfl ?_
      refine lv_ldiv (pc := 45) hx hb dX0_resistance_45 (nz_l c_4) ?_
      refine lv_l2i (v := ((S ((x3).toNatClampNeg)) / ((N ((x3).toNatClampNeg)).toInt64)).toInt32) (pc := 46) hx hb dX0_resistance_46 rfl ?_
      exact J_6 _ _ _ _ (if_neg c_4) hP hD hS (lv_sub hl [1, 2, 3, 0] rfl)
    · refine lv_ldc (v := (-10000001)) (pc := 27) hx hb hown (hts _ mm_X0_resistance_3) dX0_resistance_27 ?_
      refine lv_goto (tgt := 47) (pc := 29) hx hb dX0_resistance_29 (by decide) ?_
      exact J_6 _ _ _ _ (if_pos c_4) hP hD hS (lv_sub hl [1, 2, 3, 0] rfl)
  · refine lv_ldc (v := (-10000002)) (pc := 8) hx hb hown (hts _ mm_X0_resistance_1) dX0_resistance_8 ?_
    subst er1
    have hfn : fX0_resistance S N sg tn = _ := if_pos c_2
    rw [hfn] at hQ
    exact hQ _ _ _ _ _ rfl hP hD hS dX0_resistance_10

def fX0_howMany (S : Nat → Int64) (N : Nat → Int32) (sg : Int32) (tn : Int32) : Int32 :=
  let r1 : Int32 := fX0_isBand sg tn
  let x3 : Int32 := (if r1 = 0 then (-10000002) else (N (((sg * 11) + tn).toNatClampNeg)))
  x3
abbrev rX0_howMany : Room := { frames := 2, cells := 0, slots := 0, locals := 43 }
theorem mm_X0_howMany_2 : Cond.constant RX0 29 (-10000002) ∈ wsX0_howMany := List.mem_of_getElem? (i := 2) rfl
theorem mm_X0_howMany_1 : Cond.fieldLink RX0 15 "GaugeBounds$Bands" "counts" "[I" ∈ wsX0_howMany := List.mem_of_getElem? (i := 1) rfl
theorem ii_X0_howMany_X0 : ∀ w ∈ wsX00, w ∈ wsX0_howMany := fun _ h => List.mem_cons_of_mem _ (List.mem_append_right _ (h))
theorem qvX0_howMany : yX0_howMany.cls = RX0 ∧ yX0_howMany.cls ≠ "java/lang/invoke/MethodHandle" ∧ yX0_howMany.cls ≠ "java/lang/invoke/VarHandle" ∧ (parseMethodDescriptor yX0_howMany.desc).map (fun d => d.parameters.length) = some 2 := by decide +kernel
set_option maxHeartbeats 4000000 in
set_option maxRecDepth 100000 in
theorem kX0_howMany (l : Launch) (E : gEnv) (q0 q1 q2 : Nat) (S : Nat → Int64) (N : Nat → Int32) (sg : Int32) (tn : Int32) : gMi l E yX0_howMany wsX0_howMany rX0_howMany [.ref q0, .int sg, .int tn] (wBn E q0 q1 q2 S N) (fX0_howMany S N sg tn) (wBn E q0 q1 q2 S N) := by
  refine gMi_of (cc := cX0_howMany) (maxL := 3) (ret := (some .int)) (by decide) rfl rfl (Nat.le_of_ble_eq_true rfl) ?_
  intro p e s m args below meth c A Q ls hB hQ
  obtain ⟨hx, hb, hml, hown, hts, hK, hP, hD, hA, hS, hl⟩ := hB
  have hown : s.vm.findClass RX0 = some m.cls := hown
  have hP : va_P E.1 vwCl [(q0, .inr (0, [.ref q1, .ref q2])), (q1, .inl (eJ E, 22, .inr (.inl S))), (q2, .inl (eI E, 22, .inl N))] s.heap := hP
  have hD : va_D A [(q0, .inr (0, [.ref q1, .ref q2])), (q1, .inl (eJ E, 22, .inr (.inl S))), (q2, .inl (eI E, 22, .inl N))] := hD
  have hl : lv_has ls 3 [(0, .ref q0), (1, .int sg), (2, .int tn)] := hl
  refine lv_iload_n (pc := 0) hx hb dX0_howMany_0 rfl (lv_at hl 1 rfl) ?_
  refine lv_iload_n (pc := 1) hx hb dX0_howMany_1 rfl (lv_at hl 2 rfl) ?_
  obtain ⟨r1, er1⟩ : ∃ z : Int32, fX0_isBand sg tn = z := ⟨_, rfl⟩
  have hr1 := kX0_isBand l E sg tn
  rw [er1] at hr1
  refine gcSi (pc := 2) (As := [.int sg, .int tn]) (rest := []) ⟨hx, hb, hml, hown, hts⟩ hr1 (cwS 2 hts gX0_howMany_X0_isBand rfl rfl rfl qsX0_isBand ⟨Nat.le_of_ble_eq_true rfl, Nat.le_of_ble_eq_true rfl⟩) hK hP hD hS hA rfl hl.1 rfl (Nat.le_of_ble_eq_true rfl) dX0_howMany_2 ⟨Nat.zero_le _, Nat.zero_le _⟩ (fun H locs hP hD hS => ?_)
  have J_4 : ∀ (H : Heap) (locs : List Loc) (ls : Array Slot) (x3 : Int32), (if r1 = 0 then (-10000002) else (N (((sg * 11) + tn).toNatClampNeg))) = x3 → va_P E.1 vwCl [(q0, .inr (0, [.ref q1, .ref q2])), (q1, .inl (eJ E, 22, .inr (.inl S))), (q2, .inl (eI E, 22, .inl N))] H → va_D A [(q0, .inr (0, [.ref q1, .ref q2])), (q1, .inl (eJ E, 22, .inr (.inl S))), (q2, .inl (eI E, 22, .inl N))] → va_S A s.heap H locs → lv_has ls 3 [(0, .ref q0), (1, .int sg), (2, .int tn)] → W p l e rX0_howMany s m args below meth c H locs 0 0 Q (F0 m 24 ls [.int x3]) := by
    intro H locs ls x3 ex3 hP hD hS hl
    subst ex3
    subst er1
    exact hQ _ _ _ _ _ rfl hP hD hS dX0_howMany_24
  refine lv_if_eq (tgt := 22) (pc := 5) hx hb dX0_howMany_5 (by decide) (fun c_2 => ?_) (fun c_2 => ?_)
  · refine lv_ldc (v := (-10000002)) (pc := 22) hx hb hown (hts _ mm_X0_howMany_2) dX0_howMany_22 ?_
    exact J_4 _ _ _ _ (if_pos c_2) hP hD hS (lv_sub hl [0, 1, 2] rfl)
  · refine lv_aload_n (pc := 8) hx hb dX0_howMany_8 rfl (lv_at hl 0 rfl) ?_
    refine g_get (v := .ref q2) (pc := 9) hx hb hts ii_X0_howMany_X0 hown hK.1 hP 0 rfl rfl 1 (by decide) ⟨rfl, rfl, rfl⟩ mm_X0_howMany_1 rfl dX0_howMany_9 ?_
    refine lv_iload_n (pc := 12) hx hb dX0_howMany_12 rfl (lv_at hl 1 rfl) ?_
    refine lv_bipush (v := 11) (pc := 13) hx hb dX0_howMany_13 rfl ?_
    refine lv_imul (pc := 15) hx hb dX0_howMany_15 ?_
    refine lv_iload_n (pc := 16) hx hb dX0_howMany_16 rfl (lv_at hl 2 rfl) ?_
    refine lv_iadd (pc := 17) hx hb dX0_howMany_17 ?_
    refine g_iald (j := ((sg * 11) + tn).toNatClampNeg) (v := (N (((sg * 11) + tn).toNatClampNeg))) (pc := 18) hx hb hK.1 hP 2 0 rfl rfl (by subst er1; exact ix_band c_2) rfl rfl dX0_howMany_18 ?_
    refine lv_goto (tgt := 24) (pc := 19) hx hb dX0_howMany_19 (by decide) ?_
    exact J_4 _ _ _ _ (if_neg c_2) hP hD hS (lv_sub hl [0, 1, 2] rfl)

def lpUsed (N : Nat → Int32) : Nat → Int32
  | 0 => 0
  | i + 1 => if N i = 0 then lpUsed N i else lpUsed N i + 1
def lpForS (S : Nat → Int64) : Nat → Nat → Int64
  | 0 => S
  | i + 1 => vp_updL (lpForS S i) i 0
def lpForN (N : Nat → Int32) : Nat → Nat → Int32
  | 0 => N
  | i + 1 => upd (lpForN N i) i 0

def fX0_used (S : Nat → Int64) (N : Nat → Int32) : Int32 :=
  lpUsed N 22
abbrev rX0_used : Room := { frames := 0, cells := 0, slots := 0, locals := 0 }
theorem mm_X0_used_1 : Cond.fieldLink RX0 15 "GaugeBounds$Bands" "counts" "[I" ∈ wsX0_used := List.mem_of_getElem? (i := 1) rfl
theorem ii_X0_used_X0 : ∀ w ∈ wsX00, w ∈ wsX0_used := fun _ h => List.mem_cons_of_mem _ (List.mem_append_right _ (h))
theorem qvX0_used : yX0_used.cls = RX0 ∧ yX0_used.cls ≠ "java/lang/invoke/MethodHandle" ∧ yX0_used.cls ≠ "java/lang/invoke/VarHandle" ∧ (parseMethodDescriptor yX0_used.desc).map (fun d => d.parameters.length) = some 0 := by decide +kernel
set_option maxHeartbeats 4000000 in
set_option maxRecDepth 100000 in
theorem kX0_used (l : Launch) (E : gEnv) (q0 q1 q2 : Nat) (S : Nat → Int64) (N : Nat → Int32) : gMi l E yX0_used wsX0_used rX0_used [.ref q0] (wBn E q0 q1 q2 S N) (fX0_used S N) (wBn E q0 q1 q2 S N) := by
  refine gMi_of (cc := cX0_used) (maxL := 3) (ret := (some .int)) (by decide) rfl rfl (Nat.le_of_ble_eq_true rfl) ?_
  intro p e s m args below meth c A Q ls hB hQ
  obtain ⟨hx, hb, hml, hown, hts, hK, hP, hD, hA, hS, hl⟩ := hB
  have hown : s.vm.findClass RX0 = some m.cls := hown
  have hP : va_P E.1 vwCl [(q0, .inr (0, [.ref q1, .ref q2])), (q1, .inl (eJ E, 22, .inr (.inl S))), (q2, .inl (eI E, 22, .inl N))] s.heap := hP
  have hD : va_D A [(q0, .inr (0, [.ref q1, .ref q2])), (q1, .inl (eJ E, 22, .inr (.inl S))), (q2, .inl (eI E, 22, .inl N))] := hD
  have hl : lv_has ls 3 [(0, .ref q0)] := hl
  refine lv_iconst (v := 0) (pc := 0) hx hb dX0_used_0 rfl ?_
  refine lv_istore_n (lv' := [(1, .int 0), (0, .ref q0)]) (pc := 1) hx hb dX0_used_1 rfl hl (by decide) rfl (fun ls hl => ?_)
  refine lv_iconst (v := 0) (pc := 2) hx hb dX0_used_2 rfl ?_
  refine lv_istore_n (lv' := [(2, .int 0), (1, .int 0), (0, .ref q0)]) (pc := 3) hx hb dX0_used_3 rfl hl (by decide) rfl (fun ls hl => ?_)
  have loop4 : ∀ (n2 i1 : Nat), i1 + n2 = 22 → ∀ (H : Heap) (locs : List Loc) (ls : Array Slot), va_P E.1 vwCl [(q0, .inr (0, [.ref q1, .ref q2])), (q1, .inl (eJ E, 22, .inr (.inl S))), (q2, .inl (eI E, 22, .inl N))] H → va_D A [(q0, .inr (0, [.ref q1, .ref q2])), (q1, .inl (eJ E, 22, .inr (.inl S))), (q2, .inl (eI E, 22, .inl N))] → va_S A s.heap H locs → lv_has ls 3 [(0, .ref q0), (1, .int (lpUsed N i1)), (2, .int (nI i1))] → W p l e rX0_used s m args below meth c H locs 0 0 Q (F0 m 4 ls []) := by
    intro n2
    induction n2 with
    | zero =>
      intro i1 hi H locs ls hP hD hS hl
      obtain rfl : i1 = 22 := by omega
      refine lv_iload_n (pc := 4) hx hb dX0_used_4 rfl (lv_at hl 2 rfl) ?_
      refine lv_bipush (v := 22) (pc := 5) hx hb dX0_used_5 rfl ?_
      refine lv_icmp_ge (tgt := 28) (pc := 7) hx hb dX0_used_7 (by decide) (fun c_5 => ?_) (fun c_5 => ?_)
      rotate_left
      · exact absurd (nI_le (a := 22) (b := 22) (by decide) (by decide)) c_5
      refine lv_iload_n (pc := 28) hx hb dX0_used_28 rfl (lv_at hl 1 rfl) ?_
      exact hQ _ _ _ _ _ rfl hP hD hS dX0_used_29
    | succ n2 ih3 =>
      intro i1 hi H locs ls hP hD hS hl
      have hlt : i1 < 22 := by omega
      refine lv_iload_n (pc := 4) hx hb dX0_used_4 rfl (lv_at hl 2 rfl) ?_
      refine lv_bipush (v := 22) (pc := 5) hx hb dX0_used_5 rfl ?_
      refine lv_icmp_ge (tgt := 28) (pc := 7) hx hb dX0_used_7 (by decide) (fun c_6 => ?_) (fun c_6 => ?_)
      · exact absurd c_6 (nI_ge (a := i1) (b := 22) (by omega) (by decide))
      refine lv_aload_n (pc := 10) hx hb dX0_used_10 rfl (lv_at hl 0 rfl) ?_
      refine g_get (v := .ref q2) (pc := 11) hx hb hts ii_X0_used_X0 hown hK.1 hP 0 rfl rfl 1 (by decide) ⟨rfl, rfl, rfl⟩ mm_X0_used_1 rfl dX0_used_11 ?_
      refine lv_iload_n (pc := 14) hx hb dX0_used_14 rfl (lv_at hl 2 rfl) ?_
      refine g_iald (j := i1) (v := (N i1)) (pc := 15) hx hb hK.1 hP 2 0 rfl rfl (vp_in_nI hlt (by decide)) (nI_clamp (by omega)) rfl dX0_used_15 ?_
      have J_9 : ∀ (H : Heap) (locs : List Loc) (ls : Array Slot) (x8 : Int32), (if (N i1) = 0 then (lpUsed N i1) else ((lpUsed N i1) + 1)) = x8 → va_P E.1 vwCl [(q0, .inr (0, [.ref q1, .ref q2])), (q1, .inl (eJ E, 22, .inr (.inl S))), (q2, .inl (eI E, 22, .inl N))] H → va_D A [(q0, .inr (0, [.ref q1, .ref q2])), (q1, .inl (eJ E, 22, .inr (.inl S))), (q2, .inl (eI E, 22, .inl N))] → va_S A s.heap H locs → lv_has ls 3 [(0, .ref q0), (1, .int x8), (2, .int (nI i1))] → W p l e rX0_used s m args below meth c H locs 0 0 Q (F0 m 22 ls []) := by
        intro H locs ls x8 ex8 hP hD hS hl
        refine lv_iinc (v := nI (i1 + 1)) (lv' := [(2, .int (nI (i1 + 1))), (0, .ref q0), (1, .int x8)]) (pc := 22) hx hb dX0_used_22 hl (k := 2) rfl (nI_1 i1) (by decide) rfl (fun ls hl => ?_)
        refine lv_goto (tgt := 4) (pc := 25) hx hb dX0_used_25 (by decide) ?_
        subst ex8
        exact ih3 (i1 + 1) (by omega) _ _ _ hP hD hS (lv_sub hl [1, 2, 0] rfl)
      refine lv_if_eq (tgt := 22) (pc := 16) hx hb dX0_used_16 (by decide) (fun c_7 => ?_) (fun c_7 => ?_)
      · exact J_9 _ _ _ _ (if_pos c_7) hP hD hS (lv_sub hl [0, 1, 2] rfl)
      · refine lv_iinc (v := (lpUsed N i1) + 1) (lv' := [(1, .int ((lpUsed N i1) + 1)), (0, .ref q0), (2, .int (nI i1))]) (pc := 19) hx hb dX0_used_19 hl (k := 1) rfl rfl (by decide) rfl (fun ls hl => ?_)
        exact J_9 _ _ _ _ (if_neg c_7) hP hD hS (lv_sub hl [1, 0, 2] rfl)
  exact loop4 22 0 (by decide) _ _ _ hP hD hS (lv_sub hl [2, 1, 0] rfl)

def fX0_forget (S : Nat → Int64) (N : Nat → Int32) : (Nat → Int64) × (Nat → Int32) :=
  ((lpForS S 22), (lpForN N 22))
abbrev rX0_forget : Room := { frames := 0, cells := 0, slots := 0, locals := 0 }
theorem mm_X0_forget_1 : Cond.fieldLink RX0 11 "GaugeBounds$Bands" "sums" "[J" ∈ wsX0_forget := List.mem_of_getElem? (i := 1) rfl
theorem mm_X0_forget_2 : Cond.fieldLink RX0 15 "GaugeBounds$Bands" "counts" "[I" ∈ wsX0_forget := List.mem_of_getElem? (i := 2) rfl
theorem ii_X0_forget_X0 : ∀ w ∈ wsX00, w ∈ wsX0_forget := fun _ h => List.mem_cons_of_mem _ (List.mem_append_right _ (h))
theorem qvX0_forget : yX0_forget.cls = RX0 ∧ yX0_forget.cls ≠ "java/lang/invoke/MethodHandle" ∧ yX0_forget.cls ≠ "java/lang/invoke/VarHandle" ∧ (parseMethodDescriptor yX0_forget.desc).map (fun d => d.parameters.length) = some 0 := by decide +kernel
set_option maxHeartbeats 4000000 in
set_option maxRecDepth 100000 in
theorem kX0_forget (l : Launch) (E : gEnv) (q0 q1 q2 : Nat) (S : Nat → Int64) (N : Nat → Int32) : gMv l E yX0_forget wsX0_forget rX0_forget [.ref q0] (wBn E q0 q1 q2 S N) (wBn E q0 q1 q2 ((fX0_forget S N).1) ((fX0_forget S N).2)) := by
  refine gMv_of (cc := cX0_forget) (maxL := 2) (ret := none) (by decide) rfl rfl (Nat.le_of_ble_eq_true rfl) ?_
  intro p e s m args below meth c A Q ls hB hQ
  obtain ⟨hx, hb, hml, hown, hts, hK, hP, hD, hA, hS, hl⟩ := hB
  have hown : s.vm.findClass RX0 = some m.cls := hown
  have hP : va_P E.1 vwCl [(q0, .inr (0, [.ref q1, .ref q2])), (q1, .inl (eJ E, 22, .inr (.inl S))), (q2, .inl (eI E, 22, .inl N))] s.heap := hP
  have hD : va_D A [(q0, .inr (0, [.ref q1, .ref q2])), (q1, .inl (eJ E, 22, .inr (.inl S))), (q2, .inl (eI E, 22, .inl N))] := hD
  have hl : lv_has ls 2 [(0, .ref q0)] := hl
  refine lv_iconst (v := 0) (pc := 0) hx hb dX0_forget_0 rfl ?_
  refine lv_istore_n (lv' := [(1, .int 0), (0, .ref q0)]) (pc := 1) hx hb dX0_forget_1 rfl hl (by decide) rfl (fun ls hl => ?_)
  have loop4 : ∀ (n2 i1 : Nat), i1 + n2 = 22 → ∀ (H : Heap) (locs : List Loc) (ls : Array Slot), va_P E.1 vwCl [(q0, .inr (0, [.ref q1, .ref q2])), (q1, .inl (eJ E, 22, .inr (.inl (lpForS S i1)))), (q2, .inl (eI E, 22, .inl (lpForN N i1)))] H → va_D A [(q0, .inr (0, [.ref q1, .ref q2])), (q1, .inl (eJ E, 22, .inr (.inl (lpForS S i1)))), (q2, .inl (eI E, 22, .inl (lpForN N i1)))] → va_S A s.heap H locs → lv_has ls 2 [(0, .ref q0), (1, .int (nI i1))] → W p l e rX0_forget s m args below meth c H locs 0 0 Q (F0 m 2 ls []) := by
    intro n2
    induction n2 with
    | zero =>
      intro i1 hi H locs ls hP hD hS hl
      obtain rfl : i1 = 22 := by omega
      refine lv_iload_n (pc := 2) hx hb dX0_forget_2 rfl (lv_at hl 1 rfl) ?_
      refine lv_bipush (v := 22) (pc := 3) hx hb dX0_forget_3 rfl ?_
      refine lv_icmp_ge (tgt := 28) (pc := 5) hx hb dX0_forget_5 (by decide) (fun c_5 => ?_) (fun c_5 => ?_)
      rotate_left
      · exact absurd (nI_le (a := 22) (b := 22) (by decide) (by decide)) c_5
      exact hQ _ _ _ _ hP hD hS dX0_forget_28
    | succ n2 ih3 =>
      intro i1 hi H locs ls hP hD hS hl
      have hlt : i1 < 22 := by omega
      refine lv_iload_n (pc := 2) hx hb dX0_forget_2 rfl (lv_at hl 1 rfl) ?_
      refine lv_bipush (v := 22) (pc := 3) hx hb dX0_forget_3 rfl ?_
      refine lv_icmp_ge (tgt := 28) (pc := 5) hx hb dX0_forget_5 (by decide) (fun c_6 => ?_) (fun c_6 => ?_)
      · exact absurd c_6 (nI_ge (a := i1) (b := 22) (by omega) (by decide))
      refine lv_aload_n (pc := 8) hx hb dX0_forget_8 rfl (lv_at hl 0 rfl) ?_
      refine g_get (v := .ref q1) (pc := 9) hx hb hts ii_X0_forget_X0 hown hK.1 hP 0 rfl rfl 0 (by decide) ⟨rfl, rfl, rfl⟩ mm_X0_forget_1 rfl dX0_forget_9 ?_
      refine lv_iload_n (pc := 12) hx hb dX0_forget_12 rfl (lv_at hl 1 rfl) ?_
      refine lv_lconst (v := 0) (pc := 13) hx hb dX0_forget_13 rfl ?_
      refine g_last (j := i1) (w1 := [(q0, .inr (0, [.ref q1, .ref q2])), (q1, .inl (eJ E, 22, .inr (.inl (vp_updL (lpForS S i1) i1 0)))), (q2, .inl (eI E, 22, .inl (lpForN N i1)))]) (pc := 14) hx hb hK.1 hP hD hS 1 1 rfl rfl (vp_in_nI hlt (by decide)) (nI_clamp (by omega)) rfl dX0_forget_14 (fun H locs hP hD hS => ?_)
      refine lv_aload_n (pc := 15) hx hb dX0_forget_15 rfl (lv_at hl 0 rfl) ?_
      refine g_get (v := .ref q2) (pc := 16) hx hb hts ii_X0_forget_X0 hown hK.1 hP 0 rfl rfl 1 (by decide) ⟨rfl, rfl, rfl⟩ mm_X0_forget_2 rfl dX0_forget_16 ?_
      refine lv_iload_n (pc := 19) hx hb dX0_forget_19 rfl (lv_at hl 1 rfl) ?_
      refine lv_iconst (v := 0) (pc := 20) hx hb dX0_forget_20 rfl ?_
      refine g_iast (j := i1) (w1 := [(q0, .inr (0, [.ref q1, .ref q2])), (q1, .inl (eJ E, 22, .inr (.inl (vp_updL (lpForS S i1) i1 0)))), (q2, .inl (eI E, 22, .inl (upd (lpForN N i1) i1 0)))]) (pc := 21) hx hb hK.1 hP hD hS 2 0 rfl rfl (vp_in_nI hlt (by decide)) (nI_clamp (by omega)) rfl dX0_forget_21 (fun H locs hP hD hS => ?_)
      refine lv_iinc (v := nI (i1 + 1)) (lv' := [(1, .int (nI (i1 + 1))), (0, .ref q0)]) (pc := 22) hx hb dX0_forget_22 hl (k := 1) rfl (nI_1 i1) (by decide) rfl (fun ls hl => ?_)
      refine lv_goto (tgt := 2) (pc := 25) hx hb dX0_forget_25 (by decide) ?_
      exact ih3 (i1 + 1) (by omega) _ _ _ hP hD hS (lv_sub hl [1, 0] rfl)
  exact loop4 22 0 (by decide) _ _ _ hP hD hS (lv_sub hl [1, 0] rfl)
