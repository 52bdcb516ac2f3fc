def fX5_within (num : Int32) (least : Int32) (most : Int32) : Int32 :=
  bz (least ≤ num ∧ num ≤ most)
abbrev rX5_within : Room := { frames := 0, cells := 0, slots := 0, locals := 0 }
theorem qsX5_within : yX5_within.cls = RX5 ∧ yX5_within.cls ≠ "java/lang/invoke/MethodHandle" ∧ yX5_within.cls ≠ "java/lang/invoke/VarHandle" ∧ (parseMethodDescriptor yX5_within.desc).map (fun d => d.parameters.length) = some 3 := by decide +kernel
theorem qnX5_within : yX5_within.cls ≠ "java/lang/invoke/MethodHandle" ∧ yX5_within.cls ≠ "java/lang/invoke/VarHandle" ∧ (parseMethodDescriptor yX5_within.desc).map (fun d => d.parameters.length) = some 3 := by decide +kernel
set_option maxHeartbeats 4000000 in
set_option maxRecDepth 100000 in
theorem kX5_within (l : Launch) (E : gEnv) (num : Int32) (least : Int32) (most : Int32) : gMi l E yX5_within wsX5_within rX5_within [.int num, .int least, .int most] [] (fX5_within num least most) [] := by
  refine gMz_of (cc := cX5_within) (maxL := 3) (ret := (some .boolean)) (by decide) rfl rfl (Nat.le_of_ble_eq_true rfl) bz_n ?_
  intro p e s m args below meth c A Q ls hB hQ
  obtain ⟨hx, hb, hml, hown, hts, hK, hP, hD, hA, hS, hl⟩ := hB
  have hown : s.vm.findClass RX5 = some m.cls := hown
  have hP : va_P E.1 vwCl [] s.heap := hP
  have hD : va_D A [] := hD
  have hl : lv_has ls 3 [(0, .int num), (1, .int least), (2, .int most)] := hl
  refine lv_iload_n (pc := 0) hx hb dX5_within_0 rfl (lv_at hl 0 rfl) ?_
  refine lv_iload_n (pc := 1) hx hb dX5_within_1 rfl (lv_at hl 1 rfl) ?_
  refine lv_icmp_lt (tgt := 14) (pc := 2) hx hb dX5_within_2 (by decide) (fun c_1 => ?_) (fun c_1 => ?_)
  · refine lv_iconst (v := 0) (pc := 14) hx hb dX5_within_14 rfl ?_
    have hfn : fX5_within num least most = 0 := bz_f (by (try simp only [bz_0] at c_1); simp only [Int32.le_iff_toInt_le, Int32.lt_iff_toInt_lt, Int64.le_iff_toInt_le, Int64.lt_iff_toInt_lt, ← Int32.toInt_inj, Int32.reduceToInt, Int64.reduceToInt] at c_1 ⊢; omega)
    rw [hfn] at hQ
    exact hQ _ _ _ _ _ rfl hP hD hS dX5_within_15
  · refine lv_iload_n (pc := 5) hx hb dX5_within_5 rfl (lv_at hl 0 rfl) ?_
    refine lv_iload_n (pc := 6) hx hb dX5_within_6 rfl (lv_at hl 2 rfl) ?_
    refine lv_icmp_gt (tgt := 14) (pc := 7) hx hb dX5_within_7 (by decide) (fun c_2 => ?_) (fun c_2 => ?_)
    · refine lv_iconst (v := 0) (pc := 14) hx hb dX5_within_14 rfl ?_
      have hfn : fX5_within num least most = 0 := bz_f (by (try simp only [bz_0] at c_1 c_2); simp only [Int32.le_iff_toInt_le, Int32.lt_iff_toInt_lt, Int64.le_iff_toInt_le, Int64.lt_iff_toInt_lt, ← Int32.toInt_inj, Int32.reduceToInt, Int64.reduceToInt] at c_1 c_2 ⊢; omega)
      rw [hfn] at hQ
      exact hQ _ _ _ _ _ rfl hP hD hS dX5_within_15
    · refine lv_iconst (v := 1) (pc := 10) hx hb dX5_within_10 rfl ?_
      refine lv_goto (tgt := 15) (pc := 11) hx hb dX5_within_11 (by decide) ?_
      have hfn : fX5_within num least most = 1 := bz_t (by (try simp only [bz_0] at c_1 c_2); simp only [Int32.le_iff_toInt_le, Int32.lt_iff_toInt_lt, Int64.le_iff_toInt_le, Int64.lt_iff_toInt_lt, ← Int32.toInt_inj, Int32.reduceToInt, Int64.reduceToInt] at c_1 c_2 ⊢; omega)
      rw [hfn] at hQ
      exact hQ _ _ _ _ _ rfl hP hD hS dX5_within_15

def fX0_isBand (sg : Int32) (tn : Int32) : Int32 :=
  bz ((0 ≤ sg ∧ sg ≤ 1) ∧ (0 ≤ tn ∧ tn ≤ 10))
abbrev rX0_isBand : Room := { frames := 1, cells := 0, slots := 0, locals := 22 }
theorem mm_X0_isBand_2 : Cond.initialized RX5 ∈ wsX0_isBand := List.mem_of_getElem? (i := 2) rfl
theorem mm_X0_isBand_1 : Cond.static yX5_within ∈ wsX0_isBand := List.mem_of_getElem? (i := 1) rfl
theorem qsX0_isBand : yX0_isBand.cls = RX0 ∧ yX0_isBand.cls ≠ "java/lang/invoke/MethodHandle" ∧ yX0_isBand.cls ≠ "java/lang/invoke/VarHandle" ∧ (parseMethodDescriptor yX0_isBand.desc).map (fun d => d.parameters.length) = some 2 := by decide +kernel
theorem qnX0_isBand : yX0_isBand.cls ≠ "java/lang/invoke/MethodHandle" ∧ yX0_isBand.cls ≠ "java/lang/invoke/VarHandle" ∧ (parseMethodDescriptor yX0_isBand.desc).map (fun d => d.parameters.length) = some 2 := by decide +kernel
set_option maxHeartbeats 4000000 in
set_option maxRecDepth 100000 in
theorem kX0_isBand (l : Launch) (E : gEnv) (sg : Int32) (tn : Int32) : gMi l E yX0_isBand wsX0_isBand rX0_isBand [.int sg, .int tn] [] (fX0_isBand sg tn) [] := by
  refine gMz_of (cc := cX0_isBand) (maxL := 2) (ret := (some .boolean)) (by decide) rfl rfl (Nat.le_of_ble_eq_true rfl) bz_n ?_
  intro p e s m args below meth c A Q ls hB hQ
  obtain ⟨hx, hb, hml, hown, hts, hK, hP, hD, hA, hS, hl⟩ := hB
  have hown : s.vm.findClass RX0 = some m.cls := hown
  have hP : va_P E.1 vwCl [] s.heap := hP
  have hD : va_D A [] := hD
  have hl : lv_has ls 2 [(0, .int sg), (1, .int tn)] := hl
  refine lv_iload_n (pc := 0) hx hb dX0_isBand_0 rfl (lv_at hl 0 rfl) ?_
  refine lv_iconst (v := 0) (pc := 1) hx hb dX0_isBand_1 rfl ?_
  refine lv_iconst (v := 1) (pc := 2) hx hb dX0_isBand_2 rfl ?_
  obtain ⟨r1, er1⟩ : ∃ z : Int32, fX5_within sg 0 1 = z := ⟨_, rfl⟩
  have hr1 := kX5_within l E sg 0 1
  rw [er1] at hr1
  refine gcNi (pc := 3) (As := [.int sg, .int 0, .int 1]) (rest := []) ⟨hx, hb, hml, hown, hts⟩ hr1 ⟨va_cnB 3 hts ggX0_isBand_X5_within rfl rfl rfl hK.2.1 (hts _ mm_X0_isBand_2) qnX5_within ⟨Nat.le_of_ble_eq_true rfl, Nat.le_of_ble_eq_true rfl⟩, hts _ mm_X0_isBand_1, trivial⟩ hK hP hD hS hA rfl hl.1 rfl (Nat.le_of_ble_eq_true rfl) dX0_isBand_3 ⟨Nat.zero_le _, Nat.zero_le _⟩ (fun H locs hP hD hS => ?_)
  refine lv_if_eq (tgt := 23) (pc := 6) hx hb dX0_isBand_6 (by decide) (fun c_2 => ?_) (fun c_2 => ?_)
  · refine lv_iconst (v := 0) (pc := 23) hx hb dX0_isBand_23 rfl ?_
    subst er1
    have hfn : fX0_isBand sg tn = 0 := bz_f (by (try simp only [fX5_within, bz_0] at c_2); simp only [Int32.le_iff_toInt_le, Int32.lt_iff_toInt_lt, Int64.le_iff_toInt_le, Int64.lt_iff_toInt_lt, ← Int32.toInt_inj, Int32.reduceToInt, Int64.reduceToInt] at c_2 ⊢; omega)
    rw [hfn] at hQ
    exact hQ _ _ _ _ _ rfl hP hD hS dX0_isBand_24
  · refine lv_iload_n (pc := 9) hx hb dX0_isBand_9 rfl (lv_at hl 1 rfl) ?_
    refine lv_iconst (v := 0) (pc := 10) hx hb dX0_isBand_10 rfl ?_
    refine lv_bipush (v := 10) (pc := 11) hx hb dX0_isBand_11 rfl ?_
    obtain ⟨r3, er3⟩ : ∃ z : Int32, fX5_within tn 0 10 = z := ⟨_, rfl⟩
    have hr3 := kX5_within l E tn 0 10
    rw [er3] at hr3
    refine gcNi (pc := 13) (As := [.int tn, .int 0, .int 10]) (rest := []) ⟨hx, hb, hml, hown, hts⟩ hr3 ⟨va_cnB 3 hts ggX0_isBand_X5_within rfl rfl rfl hK.2.1 (hts _ mm_X0_isBand_2) qnX5_within ⟨Nat.le_of_ble_eq_true rfl, Nat.le_of_ble_eq_true rfl⟩, hts _ mm_X0_isBand_1, trivial⟩ hK hP hD hS hA rfl hl.1 rfl (Nat.le_of_ble_eq_true rfl) dX0_isBand_13 ⟨Nat.zero_le _, Nat.zero_le _⟩ (fun H locs hP hD hS => ?_)
    refine lv_if_eq (tgt := 23) (pc := 16) hx hb dX0_isBand_16 (by decide) (fun c_4 => ?_) (fun c_4 => ?_)
    · refine lv_iconst (v := 0) (pc := 23) hx hb dX0_isBand_23 rfl ?_
      subst er3
      subst er1
      have hfn : fX0_isBand sg tn = 0 := bz_f (by (try simp only [fX5_within, bz_0] at c_2 c_4); simp only [Int32.le_iff_toInt_le, Int32.lt_iff_toInt_lt, Int64.le_iff_toInt_le, Int64.lt_iff_toInt_lt, ← Int32.toInt_inj, Int32.reduceToInt, Int64.reduceToInt] at c_2 c_4 ⊢; omega)
      rw [hfn] at hQ
      exact hQ _ _ _ _ _ rfl hP hD hS dX0_isBand_24
    · refine lv_iconst (v := 1) (pc := 19) hx hb dX0_isBand_19 rfl ?_
      refine lv_goto (tgt := 24) (pc := 20) hx hb dX0_isBand_20 (by decide) ?_
      subst er3
      subst er1
      have hfn : fX0_isBand sg tn = 1 := bz_t (by (try simp only [fX5_within, bz_0] at c_2 c_4); simp only [Int32.le_iff_toInt_le, Int32.lt_iff_toInt_lt, Int64.le_iff_toInt_le, Int64.lt_iff_toInt_lt, ← Int32.toInt_inj, Int32.reduceToInt, Int64.reduceToInt] at c_2 c_4 ⊢; omega)
      rw [hfn] at hQ
      exact hQ _ _ _ _ _ rfl hP hD hS dX0_isBand_24

def fX1_isVoltage (v : Int32) : Int32 :=
  bz (0 ≤ v ∧ v ≤ 9999)
abbrev rX1_isVoltage : Room := { frames := 1, cells := 0, slots := 0, locals := 22 }
theorem mm_X1_isVoltage_2 : Cond.initialized RX5 ∈ wsX1_isVoltage := List.mem_of_getElem? (i := 2) rfl
theorem mm_X1_isVoltage_1 : Cond.static yX5_within ∈ wsX1_isVoltage := List.mem_of_getElem? (i := 1) rfl
theorem qsX1_isVoltage : yX1_isVoltage.cls = RX1 ∧ yX1_isVoltage.cls ≠ "java/lang/invoke/MethodHandle" ∧ yX1_isVoltage.cls ≠ "java/lang/invoke/VarHandle" ∧ (parseMethodDescriptor yX1_isVoltage.desc).map (fun d => d.parameters.length) = some 1 := by decide +kernel
theorem qnX1_isVoltage : yX1_isVoltage.cls ≠ "java/lang/invoke/MethodHandle" ∧ yX1_isVoltage.cls ≠ "java/lang/invoke/VarHandle" ∧ (parseMethodDescriptor yX1_isVoltage.desc).map (fun d => d.parameters.length) = some 1 := by decide +kernel
set_option maxHeartbeats 4000000 in
set_option maxRecDepth 100000 in
theorem kX1_isVoltage (l : Launch) (E : gEnv) (v : Int32) : gMi l E yX1_isVoltage wsX1_isVoltage rX1_isVoltage [.int v] [] (fX1_isVoltage v) [] := by
  refine gMz_of (cc := cX1_isVoltage) (maxL := 1) (ret := (some .boolean)) (by decide) rfl rfl (Nat.le_of_ble_eq_true rfl) bz_n ?_
  intro p e s m args below meth c A Q ls hB hQ
  obtain ⟨hx, hb, hml, hown, hts, hK, hP, hD, hA, hS, hl⟩ := hB
  have hown : s.vm.findClass RX1 = some m.cls := hown
  have hP : va_P E.1 vwCl [] s.heap := hP
  have hD : va_D A [] := hD
  have hl : lv_has ls 1 [(0, .int v)] := hl
  refine lv_iload_n (pc := 0) hx hb dX1_isVoltage_0 rfl (lv_at hl 0 rfl) ?_
  refine lv_iconst (v := 0) (pc := 1) hx hb dX1_isVoltage_1 rfl ?_
  refine lv_sipush (v := 9999) (pc := 2) hx hb dX1_isVoltage_2 rfl ?_
  obtain ⟨r1, er1⟩ : ∃ z : Int32, fX5_within v 0 9999 = z := ⟨_, rfl⟩
  have hr1 := kX5_within l E v 0 9999
  rw [er1] at hr1
  refine gcNi (pc := 5) (As := [.int v, .int 0, .int 9999]) (rest := []) ⟨hx, hb, hml, hown, hts⟩ hr1 ⟨va_cnB 3 hts ggX1_isVoltage_X5_within rfl rfl rfl hK.2.2.1 (hts _ mm_X1_isVoltage_2) qnX5_within ⟨Nat.le_of_ble_eq_true rfl, Nat.le_of_ble_eq_true rfl⟩, hts _ mm_X1_isVoltage_1, trivial⟩ hK hP hD hS hA rfl hl.1 rfl (Nat.le_of_ble_eq_true rfl) dX1_isVoltage_5 ⟨Nat.zero_le _, Nat.zero_le _⟩ (fun H locs hP hD hS => ?_)
  subst er1
  
  exact hQ _ _ _ _ _ rfl hP hD hS dX1_isVoltage_8

def fX1_isLoad (i : Int32) : Int32 :=
  bz (¬ i = 0 ∧ (-99) ≤ i ∧ i ≤ 99)
abbrev rX1_isLoad : Room := { frames := 1, cells := 0, slots := 0, locals := 22 }
theorem mm_X1_isLoad_2 : Cond.initialized RX5 ∈ wsX1_isLoad := List.mem_of_getElem? (i := 2) rfl
theorem mm_X1_isLoad_1 : Cond.static yX5_within ∈ wsX1_isLoad := List.mem_of_getElem? (i := 1) rfl
theorem qsX1_isLoad : yX1_isLoad.cls = RX1 ∧ yX1_isLoad.cls ≠ "java/lang/invoke/MethodHandle" ∧ yX1_isLoad.cls ≠ "java/lang/invoke/VarHandle" ∧ (parseMethodDescriptor yX1_isLoad.desc).map (fun d => d.parameters.length) = some 1 := by decide +kernel
theorem qnX1_isLoad : yX1_isLoad.cls ≠ "java/lang/invoke/MethodHandle" ∧ yX1_isLoad.cls ≠ "java/lang/invoke/VarHandle" ∧ (parseMethodDescriptor yX1_isLoad.desc).map (fun d => d.parameters.length) = some 1 := by decide +kernel
set_option maxHeartbeats 4000000 in
set_option maxRecDepth 100000 in
theorem kX1_isLoad (l : Launch) (E : gEnv) (i : Int32) : gMi l E yX1_isLoad wsX1_isLoad rX1_isLoad [.int i] [] (fX1_isLoad i) [] := by
  refine gMz_of (cc := cX1_isLoad) (maxL := 1) (ret := (some .boolean)) (by decide) rfl rfl (Nat.le_of_ble_eq_true rfl) bz_n ?_
  intro p e s m args below meth c A Q ls hB hQ
  obtain ⟨hx, hb, hml, hown, hts, hK, hP, hD, hA, hS, hl⟩ := hB
  have hown : s.vm.findClass RX1 = some m.cls := hown
  have hP : va_P E.1 vwCl [] s.heap := hP
  have hD : va_D A [] := hD
  have hl : lv_has ls 1 [(0, .int i)] := hl
  refine lv_iload_n (pc := 0) hx hb dX1_isLoad_0 rfl (lv_at hl 0 rfl) ?_
  refine lv_if_eq (tgt := 19) (pc := 1) hx hb dX1_isLoad_1 (by decide) (fun c_1 => ?_) (fun c_1 => ?_)
  · refine lv_iconst (v := 0) (pc := 19) hx hb dX1_isLoad_19 rfl ?_
    have hfn : fX1_isLoad i = 0 := bz_f (by (try simp only [fX5_within, bz_0] at c_1); simp only [Int32.le_iff_toInt_le, Int32.lt_iff_toInt_lt, Int64.le_iff_toInt_le, Int64.lt_iff_toInt_lt, ← Int32.toInt_inj, Int32.reduceToInt, Int64.reduceToInt] at c_1 ⊢; omega)
    rw [hfn] at hQ
    exact hQ _ _ _ _ _ rfl hP hD hS dX1_isLoad_20
  · refine lv_iload_n (pc := 4) hx hb dX1_isLoad_4 rfl (lv_at hl 0 rfl) ?_
    refine lv_bipush (v := (-99)) (pc := 5) hx hb dX1_isLoad_5 rfl ?_
    refine lv_bipush (v := 99) (pc := 7) hx hb dX1_isLoad_7 rfl ?_
    obtain ⟨r2, er2⟩ : ∃ z : Int32, fX5_within i (-99) 99 = z := ⟨_, rfl⟩
    have hr2 := kX5_within l E i (-99) 99
    rw [er2] at hr2
    refine gcNi (pc := 9) (As := [.int i, .int (-99), .int 99]) (rest := []) ⟨hx, hb, hml, hown, hts⟩ hr2 ⟨va_cnB 3 hts ggX1_isLoad_X5_within rfl rfl rfl hK.2.2.1 (hts _ mm_X1_isLoad_2) qnX5_within ⟨Nat.le_of_ble_eq_true rfl, Nat.le_of_ble_eq_true rfl⟩, hts _ mm_X1_isLoad_1, trivial⟩ hK hP hD hS hA rfl hl.1 rfl (Nat.le_of_ble_eq_true rfl) dX1_isLoad_9 ⟨Nat.zero_le _, Nat.zero_le _⟩ (fun H locs hP hD hS => ?_)
    refine lv_if_eq (tgt := 19) (pc := 12) hx hb dX1_isLoad_12 (by decide) (fun c_3 => ?_) (fun c_3 => ?_)
    · refine lv_iconst (v := 0) (pc := 19) hx hb dX1_isLoad_19 rfl ?_
      subst er2
      have hfn : fX1_isLoad i = 0 := bz_f (by (try simp only [fX5_within, bz_0] at c_1 c_3); simp only [Int32.le_iff_toInt_le, Int32.lt_iff_toInt_lt, Int64.le_iff_toInt_le, Int64.lt_iff_toInt_lt, ← Int32.toInt_inj, Int32.reduceToInt, Int64.reduceToInt] at c_1 c_3 ⊢; omega)
      rw [hfn] at hQ
      exact hQ _ _ _ _ _ rfl hP hD hS dX1_isLoad_20
    · refine lv_iconst (v := 1) (pc := 15) hx hb dX1_isLoad_15 rfl ?_
      refine lv_goto (tgt := 20) (pc := 16) hx hb dX1_isLoad_16 (by decide) ?_
      subst er2
      have hfn : fX1_isLoad i = 1 := bz_t (by (try simp only [fX5_within, bz_0] at c_1 c_3); simp only [Int32.le_iff_toInt_le, Int32.lt_iff_toInt_lt, Int64.le_iff_toInt_le, Int64.lt_iff_toInt_lt, ← Int32.toInt_inj, Int32.reduceToInt, Int64.reduceToInt] at c_1 c_3 ⊢; omega)
      rw [hfn] at hQ
      exact hQ _ _ _ _ _ rfl hP hD hS dX1_isLoad_20

def fX1_isRange (lo : Int32) (hi : Int32) : Int32 :=
  bz ((0 ≤ lo ∧ lo ≤ 99999) ∧ (0 ≤ hi ∧ hi ≤ 99999) ∧ lo ≤ hi)
abbrev rX1_isRange : Room := { frames := 1, cells := 0, slots := 0, locals := 22 }
theorem mm_X1_isRange_1 : Cond.constant RX1 164 (99999) ∈ wsX1_isRange := List.mem_of_getElem? (i := 1) rfl
theorem mm_X1_isRange_3 : Cond.initialized RX5 ∈ wsX1_isRange := List.mem_of_getElem? (i := 3) rfl
theorem mm_X1_isRange_2 : Cond.static yX5_within ∈ wsX1_isRange := List.mem_of_getElem? (i := 2) rfl
theorem qsX1_isRange : yX1_isRange.cls = RX1 ∧ yX1_isRange.cls ≠ "java/lang/invoke/MethodHandle" ∧ yX1_isRange.cls ≠ "java/lang/invoke/VarHandle" ∧ (parseMethodDescriptor yX1_isRange.desc).map (fun d => d.parameters.length) = some 2 := by decide +kernel
theorem qnX1_isRange : yX1_isRange.cls ≠ "java/lang/invoke/MethodHandle" ∧ yX1_isRange.cls ≠ "java/lang/invoke/VarHandle" ∧ (parseMethodDescriptor yX1_isRange.desc).map (fun d => d.parameters.length) = some 2 := by decide +kernel
set_option maxHeartbeats 4000000 in
set_option maxRecDepth 100000 in
theorem kX1_isRange (l : Launch) (E : gEnv) (lo : Int32) (hi : Int32) : gMi l E yX1_isRange wsX1_isRange rX1_isRange [.int lo, .int hi] [] (fX1_isRange lo hi) [] := by
  refine gMz_of (cc := cX1_isRange) (maxL := 2) (ret := (some .boolean)) (by decide) rfl rfl (Nat.le_of_ble_eq_true rfl) bz_n ?_
  intro p e s m args below meth c A Q ls hB hQ
  obtain ⟨hx, hb, hml, hown, hts, hK, hP, hD, hA, hS, hl⟩ := hB
  have hown : s.vm.findClass RX1 = some m.cls := hown
  have hP : va_P E.1 vwCl [] s.heap := hP
  have hD : va_D A [] := hD
  have hl : lv_has ls 2 [(0, .int lo), (1, .int hi)] := hl
  refine lv_iload_n (pc := 0) hx hb dX1_isRange_0 rfl (lv_at hl 0 rfl) ?_
  refine lv_iconst (v := 0) (pc := 1) hx hb dX1_isRange_1 rfl ?_
  refine lv_ldc (v := (99999)) (pc := 2) hx hb hown (hts _ mm_X1_isRange_1) dX1_isRange_2 ?_
  obtain ⟨r1, er1⟩ : ∃ z : Int32, fX5_within lo 0 99999 = z := ⟨_, rfl⟩
  have hr1 := kX5_within l E lo 0 99999
  rw [er1] at hr1
  refine gcNi (pc := 4) (As := [.int lo, .int 0, .int 99999]) (rest := []) ⟨hx, hb, hml, hown, hts⟩ hr1 ⟨va_cnB 3 hts ggX1_isRange_X5_within rfl rfl rfl hK.2.2.1 (hts _ mm_X1_isRange_3) qnX5_within ⟨Nat.le_of_ble_eq_true rfl, Nat.le_of_ble_eq_true rfl⟩, hts _ mm_X1_isRange_2, trivial⟩ hK hP hD hS hA rfl hl.1 rfl (Nat.le_of_ble_eq_true rfl) dX1_isRange_4 ⟨Nat.zero_le _, Nat.zero_le _⟩ (fun H locs hP hD hS => ?_)
  refine lv_if_eq (tgt := 29) (pc := 7) hx hb dX1_isRange_7 (by decide) (fun c_2 => ?_) (fun c_2 => ?_)
  · refine lv_iconst (v := 0) (pc := 29) hx hb dX1_isRange_29 rfl ?_
    subst er1
    have hfn : fX1_isRange lo hi = 0 := bz_f (by (try simp only [fX5_within, bz_0] at c_2); simp only [Int32.le_iff_toInt_le, Int32.lt_iff_toInt_lt, Int64.le_iff_toInt_le, Int64.lt_iff_toInt_lt, ← Int32.toInt_inj, Int32.reduceToInt, Int64.reduceToInt] at c_2 ⊢; omega)
    rw [hfn] at hQ
    exact hQ _ _ _ _ _ rfl hP hD hS dX1_isRange_30
  · refine lv_iload_n (pc := 10) hx hb dX1_isRange_10 rfl (lv_at hl 1 rfl) ?_
    refine lv_iconst (v := 0) (pc := 11) hx hb dX1_isRange_11 rfl ?_
    refine lv_ldc (v := (99999)) (pc := 12) hx hb hown (hts _ mm_X1_isRange_1) dX1_isRange_12 ?_
    obtain ⟨r3, er3⟩ : ∃ z : Int32, fX5_within hi 0 99999 = z := ⟨_, rfl⟩
    have hr3 := kX5_within l E hi 0 99999
    rw [er3] at hr3
    refine gcNi (pc := 14) (As := [.int hi, .int 0, .int 99999]) (rest := []) ⟨hx, hb, hml, hown, hts⟩ hr3 ⟨va_cnB 3 hts ggX1_isRange_X5_within rfl rfl rfl hK.2.2.1 (hts _ mm_X1_isRange_3) qnX5_within ⟨Nat.le_of_ble_eq_true rfl, Nat.le_of_ble_eq_true rfl⟩, hts _ mm_X1_isRange_2, trivial⟩ hK hP hD hS hA rfl hl.1 rfl (Nat.le_of_ble_eq_true rfl) dX1_isRange_14 ⟨Nat.zero_le _, Nat.zero_le _⟩ (fun H locs hP hD hS => ?_)
    refine lv_if_eq (tgt := 29) (pc := 17) hx hb dX1_isRange_17 (by decide) (fun c_4 => ?_) (fun c_4 => ?_)
    · refine lv_iconst (v := 0) (pc := 29) hx hb dX1_isRange_29 rfl ?_
      subst er3
      subst er1
      have hfn : fX1_isRange lo hi = 0 := bz_f (by (try simp only [fX5_within, bz_0] at c_2 c_4); simp only [Int32.le_iff_toInt_le, Int32.lt_iff_toInt_lt, Int64.le_iff_toInt_le, Int64.lt_iff_toInt_lt, ← Int32.toInt_inj, Int32.reduceToInt, Int64.reduceToInt] at c_2 c_4 ⊢; omega)
      rw [hfn] at hQ
      exact hQ _ _ _ _ _ rfl hP hD hS dX1_isRange_30
    · refine lv_iload_n (pc := 20) hx hb dX1_isRange_20 rfl (lv_at hl 0 rfl) ?_
      refine lv_iload_n (pc := 21) hx hb dX1_isRange_21 rfl (lv_at hl 1 rfl) ?_
      refine lv_icmp_gt (tgt := 29) (pc := 22) hx hb dX1_isRange_22 (by decide) (fun c_5 => ?_) (fun c_5 => ?_)
      · refine lv_iconst (v := 0) (pc := 29) hx hb dX1_isRange_29 rfl ?_
        subst er3
        subst er1
        have hfn : fX1_isRange lo hi = 0 := bz_f (by (try simp only [fX5_within, bz_0] at c_2 c_4 c_5); simp only [Int32.le_iff_toInt_le, Int32.lt_iff_toInt_lt, Int64.le_iff_toInt_le, Int64.lt_iff_toInt_lt, ← Int32.toInt_inj, Int32.reduceToInt, Int64.reduceToInt] at c_2 c_4 c_5 ⊢; omega)
        rw [hfn] at hQ
        exact hQ _ _ _ _ _ rfl hP hD hS dX1_isRange_30
      · refine lv_iconst (v := 1) (pc := 25) hx hb dX1_isRange_25 rfl ?_
        refine lv_goto (tgt := 30) (pc := 26) hx hb dX1_isRange_26 (by decide) ?_
        subst er3
        subst er1
        have hfn : fX1_isRange lo hi = 1 := bz_t (by (try simp only [fX5_within, bz_0] at c_2 c_4 c_5); simp only [Int32.le_iff_toInt_le, Int32.lt_iff_toInt_lt, Int64.le_iff_toInt_le, Int64.lt_iff_toInt_lt, ← Int32.toInt_inj, Int32.reduceToInt, Int64.reduceToInt] at c_2 c_4 c_5 ⊢; omega)
        rw [hfn] at hQ
        exact hQ _ _ _ _ _ rfl hP hD hS dX1_isRange_30

def fX1_signOf (i : Int32) : Int32 :=
  let x2 : Int32 := (if i ≤ 0 then 1 else 0)
  x2
abbrev rX1_signOf : Room := { frames := 0, cells := 0, slots := 0, locals := 0 }
theorem qsX1_signOf : yX1_signOf.cls = RX1 ∧ yX1_signOf.cls ≠ "java/lang/invoke/MethodHandle" ∧ yX1_signOf.cls ≠ "java/lang/invoke/VarHandle" ∧ (parseMethodDescriptor yX1_signOf.desc).map (fun d => d.parameters.length) = some 1 := by decide +kernel
theorem qnX1_signOf : yX1_signOf.cls ≠ "java/lang/invoke/MethodHandle" ∧ yX1_signOf.cls ≠ "java/lang/invoke/VarHandle" ∧ (parseMethodDescriptor yX1_signOf.desc).map (fun d => d.parameters.length) = some 1 := by decide +kernel
set_option maxHeartbeats 4000000 in
set_option maxRecDepth 100000 in
theorem kX1_signOf (l : Launch) (E : gEnv) (i : Int32) : gMi l E yX1_signOf wsX1_signOf rX1_signOf [.int i] [] (fX1_signOf i) [] := by
  refine gMi_of (cc := cX1_signOf) (maxL := 1) (ret := (some .int)) (by decide) rfl rfl (Nat.le_of_ble_eq_true rfl) ?_
  intro p e s m args below meth c A Q ls hB hQ
  obtain ⟨hx, hb, hml, hown, hts, hK, hP, hD, hA, hS, hl⟩ := hB
  have hown : s.vm.findClass RX1 = some m.cls := hown
  have hP : va_P E.1 vwCl [] s.heap := hP
  have hD : va_D A [] := hD
  have hl : lv_has ls 1 [(0, .int i)] := hl
  refine lv_iload_n (pc := 0) hx hb dX1_signOf_0 rfl (lv_at hl 0 rfl) ?_
  have J_3 : ∀ (H : Heap) (locs : List Loc) (ls : Array Slot) (x2 : Int32), (if i ≤ 0 then 1 else 0) = x2 → va_P E.1 vwCl [] H → va_D A [] → va_S A s.heap H locs → lv_has ls 1 [(0, .int i)] → W p l e rX1_signOf s m args below meth c H locs 0 0 Q (F0 m 9 ls [.int x2]) := by
    intro H locs ls x2 ex2 hP hD hS hl
    subst ex2
    exact hQ _ _ _ _ _ rfl hP hD hS dX1_signOf_9
  refine lv_if_le (tgt := 8) (pc := 1) hx hb dX1_signOf_1 (by decide) (fun c_1 => ?_) (fun c_1 => ?_)
  · refine lv_iconst (v := 1) (pc := 8) hx hb dX1_signOf_8 rfl ?_
    exact J_3 _ _ _ _ (if_pos c_1) hP hD hS (lv_sub hl [0] rfl)
  · refine lv_iconst (v := 0) (pc := 4) hx hb dX1_signOf_4 rfl ?_
    refine lv_goto (tgt := 9) (pc := 5) hx hb dX1_signOf_5 (by decide) ?_
    exact J_3 _ _ _ _ (if_neg c_1) hP hD hS (lv_sub hl [0] rfl)

def fX1_tenthOf (i : Int32) : Int32 :=
  i / 100
abbrev rX1_tenthOf : Room := { frames := 0, cells := 0, slots := 0, locals := 0 }
theorem qsX1_tenthOf : yX1_tenthOf.cls = RX1 ∧ yX1_tenthOf.cls ≠ "java/lang/invoke/MethodHandle" ∧ yX1_tenthOf.cls ≠ "java/lang/invoke/VarHandle" ∧ (parseMethodDescriptor yX1_tenthOf.desc).map (fun d => d.parameters.length) = some 1 := by decide +kernel
theorem qnX1_tenthOf : yX1_tenthOf.cls ≠ "java/lang/invoke/MethodHandle" ∧ yX1_tenthOf.cls ≠ "java/lang/invoke/VarHandle" ∧ (parseMethodDescriptor yX1_tenthOf.desc).map (fun d => d.parameters.length) = some 1 := by decide +kernel
set_option maxHeartbeats 4000000 in
set_option maxRecDepth 100000 in
theorem kX1_tenthOf (l : Launch) (E : gEnv) (i : Int32) : gMi l E yX1_tenthOf wsX1_tenthOf rX1_tenthOf [.int i] [] (fX1_tenthOf i) [] := by
  refine gMi_of (cc := cX1_tenthOf) (maxL := 1) (ret := (some .int)) (by decide) rfl rfl (Nat.le_of_ble_eq_true rfl) ?_
  intro p e s m args below meth c A Q ls hB hQ
  obtain ⟨hx, hb, hml, hown, hts, hK, hP, hD, hA, hS, hl⟩ := hB
  have hown : s.vm.findClass RX1 = some m.cls := hown
  have hP : va_P E.1 vwCl [] s.heap := hP
  have hD : va_D A [] := hD
  have hl : lv_has ls 1 [(0, .int i)] := hl
  refine lv_iload_n (pc := 0) hx hb dX1_tenthOf_0 rfl (lv_at hl 0 rfl) ?_
  refine lv_bipush (v := 100) (pc := 1) hx hb dX1_tenthOf_1 rfl ?_
  refine lv_idiv (pc := 3) hx hb dX1_tenthOf_3 (by decide) ?_
  exact hQ _ _ _ _ _ rfl hP hD hS dX1_tenthOf_4

def fX5_isRefusal (r : Int32) : Int32 :=
  bz (r = (-10000002) ∨ r = (-10000003) ∨ r = (-10000004))
abbrev rX5_isRefusal : Room := { frames := 0, cells := 0, slots := 0, locals := 0 }
theorem mm_X5_isRefusal_1 : Cond.constant RX5 67 (-10000002) ∈ wsX5_isRefusal := List.mem_of_getElem? (i := 1) rfl
theorem mm_X5_isRefusal_2 : Cond.constant RX5 129 (-10000003) ∈ wsX5_isRefusal := List.mem_of_getElem? (i := 2) rfl
theorem mm_X5_isRefusal_3 : Cond.constant RX5 170 (-10000004) ∈ wsX5_isRefusal := List.mem_of_getElem? (i := 3) rfl
theorem qsX5_isRefusal : yX5_isRefusal.cls = RX5 ∧ yX5_isRefusal.cls ≠ "java/lang/invoke/MethodHandle" ∧ yX5_isRefusal.cls ≠ "java/lang/invoke/VarHandle" ∧ (parseMethodDescriptor yX5_isRefusal.desc).map (fun d => d.parameters.length) = some 1 := by decide +kernel
theorem qnX5_isRefusal : yX5_isRefusal.cls ≠ "java/lang/invoke/MethodHandle" ∧ yX5_isRefusal.cls ≠ "java/lang/invoke/VarHandle" ∧ (parseMethodDescriptor yX5_isRefusal.desc).map (fun d => d.parameters.length) = some 1 := by decide +kernel
set_option maxHeartbeats 4000000 in
set_option maxRecDepth 100000 in
theorem kX5_isRefusal (l : Launch) (E : gEnv) (r : Int32) : gMi l E yX5_isRefusal wsX5_isRefusal rX5_isRefusal [.int r] [] (fX5_isRefusal r) [] := by
  refine gMz_of (cc := cX5_isRefusal) (maxL := 1) (ret := (some .boolean)) (by decide) rfl rfl (Nat.le_of_ble_eq_true rfl) bz_n ?_
  intro p e s m args below meth c A Q ls hB hQ
  obtain ⟨hx, hb, hml, hown, hts, hK, hP, hD, hA, hS, hl⟩ := hB
  have hown : s.vm.findClass RX5 = some m.cls := hown
  have hP : va_P E.1 vwCl [] s.heap := hP
  have hD : va_D A [] := hD
  have hl : lv_has ls 1 [(0, .int r)] := hl
  refine lv_iload_n (pc := 0) hx hb dX5_isRefusal_0 rfl (lv_at hl 0 rfl) ?_
  refine lv_ldc (v := (-10000002)) (pc := 1) hx hb hown (hts _ mm_X5_isRefusal_1) dX5_isRefusal_1 ?_
  refine lv_icmp_eq (tgt := 18) (pc := 3) hx hb dX5_isRefusal_3 (by decide) (fun c_1 => ?_) (fun c_1 => ?_)
  · refine lv_iconst (v := 1) (pc := 18) hx hb dX5_isRefusal_18 rfl ?_
    refine lv_goto (tgt := 23) (pc := 19) hx hb dX5_isRefusal_19 (by decide) ?_
    have hfn : fX5_isRefusal r = 1 := bz_t (by (try simp only [bz_0] at c_1); simp only [Int32.le_iff_toInt_le, Int32.lt_iff_toInt_lt, Int64.le_iff_toInt_le, Int64.lt_iff_toInt_lt, ← Int32.toInt_inj, Int32.reduceToInt, Int64.reduceToInt] at c_1 ⊢; omega)
    rw [hfn] at hQ
    exact hQ _ _ _ _ _ rfl hP hD hS dX5_isRefusal_23
  · refine lv_iload_n (pc := 6) hx hb dX5_isRefusal_6 rfl (lv_at hl 0 rfl) ?_
    refine lv_ldc (v := (-10000003)) (pc := 7) hx hb hown (hts _ mm_X5_isRefusal_2) dX5_isRefusal_7 ?_
    refine lv_icmp_eq (tgt := 18) (pc := 9) hx hb dX5_isRefusal_9 (by decide) (fun c_2 => ?_) (fun c_2 => ?_)
    · refine lv_iconst (v := 1) (pc := 18) hx hb dX5_isRefusal_18 rfl ?_
      refine lv_goto (tgt := 23) (pc := 19) hx hb dX5_isRefusal_19 (by decide) ?_
      have hfn : fX5_isRefusal r = 1 := bz_t (by (try simp only [bz_0] at c_1 c_2); simp only [Int32.le_iff_toInt_le, Int32.lt_iff_toInt_lt, Int64.le_iff_toInt_le, Int64.lt_iff_toInt_lt, ← Int32.toInt_inj, Int32.reduceToInt, Int64.reduceToInt] at c_1 c_2 ⊢; omega)
      rw [hfn] at hQ
      exact hQ _ _ _ _ _ rfl hP hD hS dX5_isRefusal_23
    · refine lv_iload_n (pc := 12) hx hb dX5_isRefusal_12 rfl (lv_at hl 0 rfl) ?_
      refine lv_ldc (v := (-10000004)) (pc := 13) hx hb hown (hts _ mm_X5_isRefusal_3) dX5_isRefusal_13 ?_
      refine lv_icmp_ne (tgt := 22) (pc := 15) hx hb dX5_isRefusal_15 (by decide) (fun c_3 => ?_) (fun c_3 => ?_)
      · refine lv_iconst (v := 0) (pc := 22) hx hb dX5_isRefusal_22 rfl ?_
        have hfn : fX5_isRefusal r = 0 := bz_f (by (try simp only [bz_0] at c_1 c_2 c_3); simp only [Int32.le_iff_toInt_le, Int32.lt_iff_toInt_lt, Int64.le_iff_toInt_le, Int64.lt_iff_toInt_lt, ← Int32.toInt_inj, Int32.reduceToInt, Int64.reduceToInt] at c_1 c_2 c_3 ⊢; omega)
        rw [hfn] at hQ
        exact hQ _ _ _ _ _ rfl hP hD hS dX5_isRefusal_23
      · refine lv_iconst (v := 1) (pc := 18) hx hb dX5_isRefusal_18 rfl ?_
        refine lv_goto (tgt := 23) (pc := 19) hx hb dX5_isRefusal_19 (by decide) ?_
        have hfn : fX5_isRefusal r = 1 := bz_t (by (try simp only [bz_0] at c_1 c_2 c_3); simp only [Int32.le_iff_toInt_le, Int32.lt_iff_toInt_lt, Int64.le_iff_toInt_le, Int64.lt_iff_toInt_lt, ← Int32.toInt_inj, Int32.reduceToInt, Int64.reduceToInt] at c_1 c_2 c_3 ⊢; omega)
        rw [hfn] at hQ
        exact hQ _ _ _ _ _ rfl hP hD hS dX5_isRefusal_23

def fX4_hasSecond (k : Int32) : Int32 :=
  bz (k = 112 ∨ k = 108 ∨ k = 99)
abbrev rX4_hasSecond : Room := { frames := 0, cells := 0, slots := 0, locals := 0 }
theorem qsX4_hasSecond : yX4_hasSecond.cls = RX4 ∧ yX4_hasSecond.cls ≠ "java/lang/invoke/MethodHandle" ∧ yX4_hasSecond.cls ≠ "java/lang/invoke/VarHandle" ∧ (parseMethodDescriptor yX4_hasSecond.desc).map (fun d => d.parameters.length) = some 1 := by decide +kernel
theorem qnX4_hasSecond : yX4_hasSecond.cls ≠ "java/lang/invoke/MethodHandle" ∧ yX4_hasSecond.cls ≠ "java/lang/invoke/VarHandle" ∧ (parseMethodDescriptor yX4_hasSecond.desc).map (fun d => d.parameters.length) = some 1 := by decide +kernel
set_option maxHeartbeats 4000000 in
set_option maxRecDepth 100000 in
theorem kX4_hasSecond (l : Launch) (E : gEnv) (k : Int32) : gMi l E yX4_hasSecond wsX4_hasSecond rX4_hasSecond [.int k] [] (fX4_hasSecond k) [] := by
  refine gMz_of (cc := cX4_hasSecond) (maxL := 1) (ret := (some .boolean)) (by decide) rfl rfl (Nat.le_of_ble_eq_true rfl) bz_n ?_
  intro p e s m args below meth c A Q ls hB hQ
  obtain ⟨hx, hb, hml, hown, hts, hK, hP, hD, hA, hS, hl⟩ := hB
  have hown : s.vm.findClass RX4 = some m.cls := hown
  have hP : va_P E.1 vwCl [] s.heap := hP
  have hD : va_D A [] := hD
  have hl : lv_has ls 1 [(0, .int k)] := hl
  refine lv_iload_n (pc := 0) hx hb dX4_hasSecond_0 rfl (lv_at hl 0 rfl) ?_
  refine lv_bipush (v := 112) (pc := 1) hx hb dX4_hasSecond_1 rfl ?_
  refine lv_icmp_eq (tgt := 18) (pc := 3) hx hb dX4_hasSecond_3 (by decide) (fun c_1 => ?_) (fun c_1 => ?_)
  · refine lv_iconst (v := 1) (pc := 18) hx hb dX4_hasSecond_18 rfl ?_
    refine lv_goto (tgt := 23) (pc := 19) hx hb dX4_hasSecond_19 (by decide) ?_
    have hfn : fX4_hasSecond k = 1 := bz_t (by (try simp only [bz_0] at c_1); simp only [Int32.le_iff_toInt_le, Int32.lt_iff_toInt_lt, Int64.le_iff_toInt_le, Int64.lt_iff_toInt_lt, ← Int32.toInt_inj, Int32.reduceToInt, Int64.reduceToInt] at c_1 ⊢; omega)
    rw [hfn] at hQ
    exact hQ _ _ _ _ _ rfl hP hD hS dX4_hasSecond_23
  · refine lv_iload_n (pc := 6) hx hb dX4_hasSecond_6 rfl (lv_at hl 0 rfl) ?_
    refine lv_bipush (v := 108) (pc := 7) hx hb dX4_hasSecond_7 rfl ?_
    refine lv_icmp_eq (tgt := 18) (pc := 9) hx hb dX4_hasSecond_9 (by decide) (fun c_2 => ?_) (fun c_2 => ?_)
    · refine lv_iconst (v := 1) (pc := 18) hx hb dX4_hasSecond_18 rfl ?_
      refine lv_goto (tgt := 23) (pc := 19) hx hb dX4_hasSecond_19 (by decide) ?_
      have hfn : fX4_hasSecond k = 1 := bz_t (by (try simp only [bz_0] at c_1 c_2); simp only [Int32.le_iff_toInt_le, Int32.lt_iff_toInt_lt, Int64.le_iff_toInt_le, Int64.lt_iff_toInt_lt, ← Int32.toInt_inj, Int32.reduceToInt, Int64.reduceToInt] at c_1 c_2 ⊢; omega)
      rw [hfn] at hQ
      exact hQ _ _ _ _ _ rfl hP hD hS dX4_hasSecond_23
    · refine lv_iload_n (pc := 12) hx hb dX4_hasSecond_12 rfl (lv_at hl 0 rfl) ?_
      refine lv_bipush (v := 99) (pc := 13) hx hb dX4_hasSecond_13 rfl ?_
      refine lv_icmp_ne (tgt := 22) (pc := 15) hx hb dX4_hasSecond_15 (by decide) (fun c_3 => ?_) (fun c_3 => ?_)
      · refine lv_iconst (v := 0) (pc := 22) hx hb dX4_hasSecond_22 rfl ?_
        have hfn : fX4_hasSecond k = 0 := bz_f (by (try simp only [bz_0] at c_1 c_2 c_3); simp only [Int32.le_iff_toInt_le, Int32.lt_iff_toInt_lt, Int64.le_iff_toInt_le, Int64.lt_iff_toInt_lt, ← Int32.toInt_inj, Int32.reduceToInt, Int64.reduceToInt] at c_1 c_2 c_3 ⊢; omega)
        rw [hfn] at hQ
        exact hQ _ _ _ _ _ rfl hP hD hS dX4_hasSecond_23
      · refine lv_iconst (v := 1) (pc := 18) hx hb dX4_hasSecond_18 rfl ?_
        refine lv_goto (tgt := 23) (pc := 19) hx hb dX4_hasSecond_19 (by decide) ?_
        have hfn : fX4_hasSecond k = 1 := bz_t (by (try simp only [bz_0] at c_1 c_2 c_3); simp only [Int32.le_iff_toInt_le, Int32.lt_iff_toInt_lt, Int64.le_iff_toInt_le, Int64.lt_iff_toInt_lt, ← Int32.toInt_inj, Int32.reduceToInt, Int64.reduceToInt] at c_1 c_2 c_3 ⊢; omega)
        rw [hfn] at hQ
        exact hQ _ _ _ _ _ rfl hP hD hS dX4_hasSecond_23

def fX4_isKind (k : Int32) : Int32 :=
  bz (k = 114 ∨ k = 111 ∨ k = 103 ∨ k = 112 ∨ k = 108 ∨ k = 99)
abbrev rX4_isKind : Room := { frames := 1, cells := 0, slots := 0, locals := 20 }
theorem qsX4_isKind : yX4_isKind.cls = RX4 ∧ yX4_isKind.cls ≠ "java/lang/invoke/MethodHandle" ∧ yX4_isKind.cls ≠ "java/lang/invoke/VarHandle" ∧ (parseMethodDescriptor yX4_isKind.desc).map (fun d => d.parameters.length) = some 1 := by decide +kernel
theorem qnX4_isKind : yX4_isKind.cls ≠ "java/lang/invoke/MethodHandle" ∧ yX4_isKind.cls ≠ "java/lang/invoke/VarHandle" ∧ (parseMethodDescriptor yX4_isKind.desc).map (fun d => d.parameters.length) = some 1 := by decide +kernel
set_option maxHeartbeats 4000000 in
set_option maxRecDepth 100000 in
theorem kX4_isKind (l : Launch) (E : gEnv) (k : Int32) : gMi l E yX4_isKind wsX4_isKind rX4_isKind [.int k] [] (fX4_isKind k) [] := by
  refine gMz_of (cc := cX4_isKind) (maxL := 1) (ret := (some .boolean)) (by decide) rfl rfl (Nat.le_of_ble_eq_true rfl) bz_n ?_
  intro p e s m args below meth c A Q ls hB hQ
  obtain ⟨hx, hb, hml, hown, hts, hK, hP, hD, hA, hS, hl⟩ := hB
  have hown : s.vm.findClass RX4 = some m.cls := hown
  have hP : va_P E.1 vwCl [] s.heap := hP
  have hD : va_D A [] := hD
  have hl : lv_has ls 1 [(0, .int k)] := hl
  refine lv_iload_n (pc := 0) hx hb dX4_isKind_0 rfl (lv_at hl 0 rfl) ?_
  refine lv_bipush (v := 114) (pc := 1) hx hb dX4_isKind_1 rfl ?_
  refine lv_icmp_eq (tgt := 25) (pc := 3) hx hb dX4_isKind_3 (by decide) (fun c_1 => ?_) (fun c_1 => ?_)
  · refine lv_iconst (v := 1) (pc := 25) hx hb dX4_isKind_25 rfl ?_
    refine lv_goto (tgt := 30) (pc := 26) hx hb dX4_isKind_26 (by decide) ?_
    have hfn : fX4_isKind k = 1 := bz_t (by (try simp only [fX4_hasSecond, bz_0] at c_1); simp only [Int32.le_iff_toInt_le, Int32.lt_iff_toInt_lt, Int64.le_iff_toInt_le, Int64.lt_iff_toInt_lt, ← Int32.toInt_inj, Int32.reduceToInt, Int64.reduceToInt] at c_1 ⊢; omega)
    rw [hfn] at hQ
    exact hQ _ _ _ _ _ rfl hP hD hS dX4_isKind_30
  · refine lv_iload_n (pc := 6) hx hb dX4_isKind_6 rfl (lv_at hl 0 rfl) ?_
    refine lv_bipush (v := 111) (pc := 7) hx hb dX4_isKind_7 rfl ?_
    refine lv_icmp_eq (tgt := 25) (pc := 9) hx hb dX4_isKind_9 (by decide) (fun c_2 => ?_) (fun c_2 => ?_)
    · refine lv_iconst (v := 1) (pc := 25) hx hb dX4_isKind_25 rfl ?_
      refine lv_goto (tgt := 30) (pc := 26) hx hb dX4_isKind_26 (by decide) ?_
      have hfn : fX4_isKind k = 1 := bz_t (by (try simp only [fX4_hasSecond, bz_0] at c_1 c_2); simp only [Int32.le_iff_toInt_le, Int32.lt_iff_toInt_lt, Int64.le_iff_toInt_le, Int64.lt_iff_toInt_lt, ← Int32.toInt_inj, Int32.reduceToInt, Int64.reduceToInt] at c_1 c_2 ⊢; omega)
      rw [hfn] at hQ
      exact hQ _ _ _ _ _ rfl hP hD hS dX4_isKind_30
    · refine lv_iload_n (pc := 12) hx hb dX4_isKind_12 rfl (lv_at hl 0 rfl) ?_
      refine lv_bipush (v := 103) (pc := 13) hx hb dX4_isKind_13 rfl ?_
      refine lv_icmp_eq (tgt := 25) (pc := 15) hx hb dX4_isKind_15 (by decide) (fun c_3 => ?_) (fun c_3 => ?_)
      · refine lv_iconst (v := 1) (pc := 25) hx hb dX4_isKind_25 rfl ?_
        refine lv_goto (tgt := 30) (pc := 26) hx hb dX4_isKind_26 (by decide) ?_
        have hfn : fX4_isKind k = 1 := bz_t (by (try simp only [fX4_hasSecond, bz_0] at c_1 c_2 c_3); simp only [Int32.le_iff_toInt_le, Int32.lt_iff_toInt_lt, Int64.le_iff_toInt_le, Int64.lt_iff_toInt_lt, ← Int32.toInt_inj, Int32.reduceToInt, Int64.reduceToInt] at c_1 c_2 c_3 ⊢; omega)
        rw [hfn] at hQ
        exact hQ _ _ _ _ _ rfl hP hD hS dX4_isKind_30
      · refine lv_iload_n (pc := 18) hx hb dX4_isKind_18 rfl (lv_at hl 0 rfl) ?_
        obtain ⟨r4, er4⟩ : ∃ z : Int32, fX4_hasSecond k = z := ⟨_, rfl⟩
        have hr4 := kX4_hasSecond l E k
        rw [er4] at hr4
        refine gcSi (pc := 19) (As := [.int k]) (rest := []) ⟨hx, hb, hml, hown, hts⟩ hr4 (cwS 1 hts gX4_isKind_X4_hasSecond rfl rfl rfl qsX4_hasSecond ⟨Nat.le_of_ble_eq_true rfl, Nat.le_of_ble_eq_true rfl⟩) hK hP hD hS hA rfl hl.1 rfl (Nat.le_of_ble_eq_true rfl) dX4_isKind_19 ⟨Nat.zero_le _, Nat.zero_le _⟩ (fun H locs hP hD hS => ?_)
        refine lv_if_eq (tgt := 29) (pc := 22) hx hb dX4_isKind_22 (by decide) (fun c_5 => ?_) (fun c_5 => ?_)
        · refine lv_iconst (v := 0) (pc := 29) hx hb dX4_isKind_29 rfl ?_
          subst er4
          have hfn : fX4_isKind k = 0 := bz_f (by (try simp only [fX4_hasSecond, bz_0] at c_1 c_2 c_3 c_5); simp only [Int32.le_iff_toInt_le, Int32.lt_iff_toInt_lt, Int64.le_iff_toInt_le, Int64.lt_iff_toInt_lt, ← Int32.toInt_inj, Int32.reduceToInt, Int64.reduceToInt] at c_1 c_2 c_3 c_5 ⊢; omega)
          rw [hfn] at hQ
          exact hQ _ _ _ _ _ rfl hP hD hS dX4_isKind_30
        · refine lv_iconst (v := 1) (pc := 25) hx hb dX4_isKind_25 rfl ?_
          refine lv_goto (tgt := 30) (pc := 26) hx hb dX4_isKind_26 (by decide) ?_
          subst er4
          have hfn : fX4_isKind k = 1 := bz_t (by (try simp only [fX4_hasSecond, bz_0] at c_1 c_2 c_3 c_5); simp only [Int32.le_iff_toInt_le, Int32.lt_iff_toInt_lt, Int64.le_iff_toInt_le, Int64.lt_iff_toInt_lt, ← Int32.toInt_inj, Int32.reduceToInt, Int64.reduceToInt] at c_1 c_2 c_3 c_5 ⊢; omega)
          rw [hfn] at hQ
          exact hQ _ _ _ _ _ rfl hP hD hS dX4_isKind_30

def fX4_isFigure (k : Int32) : Int32 :=
  bz (48 ≤ k ∧ k ≤ 57)
abbrev rX4_isFigure : Room := { frames := 0, cells := 0, slots := 0, locals := 0 }
theorem qsX4_isFigure : yX4_isFigure.cls = RX4 ∧ yX4_isFigure.cls ≠ "java/lang/invoke/MethodHandle" ∧ yX4_isFigure.cls ≠ "java/lang/invoke/VarHandle" ∧ (parseMethodDescriptor yX4_isFigure.desc).map (fun d => d.parameters.length) = some 1 := by decide +kernel
theorem qnX4_isFigure : yX4_isFigure.cls ≠ "java/lang/invoke/MethodHandle" ∧ yX4_isFigure.cls ≠ "java/lang/invoke/VarHandle" ∧ (parseMethodDescriptor yX4_isFigure.desc).map (fun d => d.parameters.length) = some 1 := by decide +kernel
set_option maxHeartbeats 4000000 in
set_option maxRecDepth 100000 in
theorem kX4_isFigure (l : Launch) (E : gEnv) (k : Int32) : gMi l E yX4_isFigure wsX4_isFigure rX4_isFigure [.int k] [] (fX4_isFigure k) [] := by
  refine gMz_of (cc := cX4_isFigure) (maxL := 1) (ret := (some .boolean)) (by decide) rfl rfl (Nat.le_of_ble_eq_true rfl) bz_n ?_
  intro p e s m args below meth c A Q ls hB hQ
  obtain ⟨hx, hb, hml, hown, hts, hK, hP, hD, hA, hS, hl⟩ := hB
  have hown : s.vm.findClass RX4 = some m.cls := hown
  have hP : va_P E.1 vwCl [] s.heap := hP
  have hD : va_D A [] := hD
  have hl : lv_has ls 1 [(0, .int k)] := hl
  refine lv_iload_n (pc := 0) hx hb dX4_isFigure_0 rfl (lv_at hl 0 rfl) ?_
  refine lv_bipush (v := 48) (pc := 1) hx hb dX4_isFigure_1 rfl ?_
  refine lv_icmp_lt (tgt := 16) (pc := 3) hx hb dX4_isFigure_3 (by decide) (fun c_1 => ?_) (fun c_1 => ?_)
  · refine lv_iconst (v := 0) (pc := 16) hx hb dX4_isFigure_16 rfl ?_
    have hfn : fX4_isFigure k = 0 := bz_f (by (try simp only [bz_0] at c_1); simp only [Int32.le_iff_toInt_le, Int32.lt_iff_toInt_lt, Int64.le_iff_toInt_le, Int64.lt_iff_toInt_lt, ← Int32.toInt_inj, Int32.reduceToInt, Int64.reduceToInt] at c_1 ⊢; omega)
    rw [hfn] at hQ
    exact hQ _ _ _ _ _ rfl hP hD hS dX4_isFigure_17
  · refine lv_iload_n (pc := 6) hx hb dX4_isFigure_6 rfl (lv_at hl 0 rfl) ?_
    refine lv_bipush (v := 57) (pc := 7) hx hb dX4_isFigure_7 rfl ?_
    refine lv_icmp_gt (tgt := 16) (pc := 9) hx hb dX4_isFigure_9 (by decide) (fun c_2 => ?_) (fun c_2 => ?_)
    · refine lv_iconst (v := 0) (pc := 16) hx hb dX4_isFigure_16 rfl ?_
      have hfn : fX4_isFigure k = 0 := bz_f (by (try simp only [bz_0] at c_1 c_2); simp only [Int32.le_iff_toInt_le, Int32.lt_iff_toInt_lt, Int64.le_iff_toInt_le, Int64.lt_iff_toInt_lt, ← Int32.toInt_inj, Int32.reduceToInt, Int64.reduceToInt] at c_1 c_2 ⊢; omega)
      rw [hfn] at hQ
      exact hQ _ _ _ _ _ rfl hP hD hS dX4_isFigure_17
    · refine lv_iconst (v := 1) (pc := 12) hx hb dX4_isFigure_12 rfl ?_
      refine lv_goto (tgt := 17) (pc := 13) hx hb dX4_isFigure_13 (by decide) ?_
      have hfn : fX4_isFigure k = 1 := bz_t (by (try simp only [bz_0] at c_1 c_2); simp only [Int32.le_iff_toInt_le, Int32.lt_iff_toInt_lt, Int64.le_iff_toInt_le, Int64.lt_iff_toInt_lt, ← Int32.toInt_inj, Int32.reduceToInt, Int64.reduceToInt] at c_1 c_2 ⊢; omega)
      rw [hfn] at hQ
      exact hQ _ _ _ _ _ rfl hP hD hS dX4_isFigure_17

def fX6_in (v : Int64) (lo : Int64) (hi : Int64) : Int32 :=
  bz (lo ≤ v ∧ v ≤ hi)
abbrev rX6_in : Room := { frames := 0, cells := 0, slots := 0, locals := 0 }
theorem qsX6_in : yX6_in.cls = RX6 ∧ yX6_in.cls ≠ "java/lang/invoke/MethodHandle" ∧ yX6_in.cls ≠ "java/lang/invoke/VarHandle" ∧ (parseMethodDescriptor yX6_in.desc).map (fun d => d.parameters.length) = some 3 := by decide +kernel
theorem qnX6_in : yX6_in.cls ≠ "java/lang/invoke/MethodHandle" ∧ yX6_in.cls ≠ "java/lang/invoke/VarHandle" ∧ (parseMethodDescriptor yX6_in.desc).map (fun d => d.parameters.length) = some 3 := by decide +kernel
set_option maxHeartbeats 4000000 in
set_option maxRecDepth 100000 in
theorem kX6_in (l : Launch) (E : gEnv) (v : Int64) (lo : Int64) (hi : Int64) : gMi l E yX6_in wsX6_in rX6_in [.long v, .long lo, .long hi] [] (fX6_in v lo hi) [] := by
  refine gMz_of (cc := cX6_in) (maxL := 6) (ret := (some .boolean)) (by decide) rfl rfl (Nat.le_of_ble_eq_true rfl) bz_n ?_
  intro p e s m args below meth c A Q ls hB hQ
  obtain ⟨hx, hb, hml, hown, hts, hK, hP, hD, hA, hS, hl⟩ := hB
  have hown : s.vm.findClass RX6 = some m.cls := hown
  have hP : va_P E.1 vwCl [] s.heap := hP
  have hD : va_D A [] := hD
  have hl : lv_has ls 6 [(0, .long v), (2, .long lo), (4, .long hi)] := hl
  refine lv_lload_n (pc := 0) hx hb dX6_in_0 rfl (lv_at hl 0 rfl) ?_
  refine lv_lload_n (pc := 1) hx hb dX6_in_1 rfl (lv_at hl 1 rfl) ?_
  refine gl_lt (tgt := 17) (pc := 2) hx hb dX6_in_2 dX6_in_3 rfl (fun c_1 => ?_) (fun c_1 => ?_)
  · refine lv_iconst (v := 0) (pc := 17) hx hb dX6_in_17 rfl ?_
    have hfn : fX6_in v lo hi = 0 := bz_f (by (try simp only [bz_0] at c_1); simp only [Int32.le_iff_toInt_le, Int32.lt_iff_toInt_lt, Int64.le_iff_toInt_le, Int64.lt_iff_toInt_lt, ← Int32.toInt_inj, Int32.reduceToInt, Int64.reduceToInt] at c_1 ⊢; omega)
    rw [hfn] at hQ
    exact hQ _ _ _ _ _ rfl hP hD hS dX6_in_18
  · refine lv_lload_n (pc := 6) hx hb dX6_in_6 rfl (lv_at hl 0 rfl) ?_
    refine lv_lload (pc := 7) hx hb dX6_in_7 (lv_at hl 2 rfl) ?_
    refine gl_gt (tgt := 17) (pc := 9) hx hb dX6_in_9 dX6_in_10 rfl (fun c_2 => ?_) (fun c_2 => ?_)
    · refine lv_iconst (v := 0) (pc := 17) hx hb dX6_in_17 rfl ?_
      have hfn : fX6_in v lo hi = 0 := bz_f (by (try simp only [bz_0] at c_1 c_2); simp only [Int32.le_iff_toInt_le, Int32.lt_iff_toInt_lt, Int64.le_iff_toInt_le, Int64.lt_iff_toInt_lt, ← Int32.toInt_inj, Int32.reduceToInt, Int64.reduceToInt] at c_1 c_2 ⊢; omega)
      rw [hfn] at hQ
      exact hQ _ _ _ _ _ rfl hP hD hS dX6_in_18
    · refine lv_iconst (v := 1) (pc := 13) hx hb dX6_in_13 rfl ?_
      refine lv_goto (tgt := 18) (pc := 14) hx hb dX6_in_14 (by decide) ?_
      have hfn : fX6_in v lo hi = 1 := bz_t (by (try simp only [bz_0] at c_1 c_2); simp only [Int32.le_iff_toInt_le, Int32.lt_iff_toInt_lt, Int64.le_iff_toInt_le, Int64.lt_iff_toInt_lt, ← Int32.toInt_inj, Int32.reduceToInt, Int64.reduceToInt] at c_1 c_2 ⊢; omega)
      rw [hfn] at hQ
      exact hQ _ _ _ _ _ rfl hP hD hS dX6_in_18
