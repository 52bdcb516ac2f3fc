/-! the reference's numbers -/
theorem ix_off {a i N : Nat} (h : a + i < N) (hN : N < 2 ^ 31) : vp_in (nI a + nI i) N := by rw [nI_add]; exact vp_in_nI h hN
theorem cl_off {a i : Nat} (h : a + i < 2 ^ 31) : (nI a + nI i).toNatClampNeg = a + i := by rw [nI_add]; exact nI_clamp h
theorem ix_of {x : Int32} {N : Nat} (h0 : 0 ≤ x.toInt) (h : x.toInt < N) : vp_in x N := vp_in_iff.mpr ⟨h0, h⟩
theorem ix_o1 {x : Int32} {N : Nat} (a : Int32) (ha : 0 ≤ a.toInt ∧ a.toInt ≤ 1000) (h0 : 0 ≤ x.toInt) (h : a.toInt + x.toInt < N) (hN : N ≤ 1000) : vp_in (a + x) N := by
  have e1 : (a + x).toInt = a.toInt + x.toInt := Jvm.Kit.i32_add (by omega) (by omega)
  rw [vp_in_iff, e1]; omega
theorem ix_o2 {x : Int32} {N : Nat} (a b : Int32) (ha : 0 ≤ a.toInt ∧ a.toInt ≤ 1000) (hb : 0 ≤ b.toInt ∧ b.toInt ≤ 1000) (h0 : 0 ≤ x.toInt) (h : a.toInt + x.toInt + b.toInt < N) (hN : N ≤ 1000) : vp_in (a + x + b) N := by
  have e1 : (a + x).toInt = a.toInt + x.toInt := Jvm.Kit.i32_add (by omega) (by omega)
  have e2 : (a + x + b).toInt = a.toInt + x.toInt + b.toInt := by rw [← e1]; exact Jvm.Kit.i32_add (by omega) (by omega)
  rw [vp_in_iff, e2]; omega
theorem ix_o3 {x : Int32} {N : Nat} (a b : Int32) (ha : 0 ≤ a.toInt ∧ a.toInt ≤ 1000) (hb : 0 ≤ b.toInt ∧ b.toInt ≤ 1000) (h0 : 0 ≤ x.toInt) (h1 : 0 ≤ a.toInt + x.toInt - b.toInt) (h : a.toInt + x.toInt - b.toInt < N) (hx : x.toInt ≤ 1000) : vp_in (a + x - b) N := by
  have e1 : (a + x).toInt = a.toInt + x.toInt := Jvm.Kit.i32_add (by omega) (by omega)
  have e2 : (a + x - b).toInt = a.toInt + x.toInt - b.toInt := by rw [← e1]; exact Jvm.Kit.i32_sub (by omega) (by omega)
  rw [vp_in_iff, e2]; omega
theorem ix_s1 {x : Int32} {N : Nat} (h0 : 1 ≤ x.toInt) (h : x.toInt - 1 < N) : vp_in (x - 1) N := by
  have e1 : (x - 1).toInt = x.toInt - 1 := by
    have h2 := x.toInt_lt
    exact Jvm.Kit.i32_sub (y := 1) (by simp only [Int32.reduceToInt]; omega) (by simp only [Int32.reduceToInt]; omega)
  rw [vp_in_iff, e1]; omega
theorem in_i {x : Int32} {lo hi : Int64} (h : ¬ fX6_in x.toInt64 lo hi = 0) : lo.toInt ≤ x.toInt ∧ x.toInt ≤ hi.toInt := by
  simp only [fX6_in, bz_0] at h
  simp only [Int64.le_iff_toInt_le, Int32.toInt_toInt64] at h
  omega
theorem iv_1000 {v k : Int32} (h : 0 ≤ v.toInt ∧ v.toInt ≤ 1000) (hk : (if v = 1000 then 9 else v / 100) = k) : 0 ≤ k.toInt ∧ k.toInt ≤ 9 := ix_volts (v := v) (by rw [Int32.lt_iff_toInt_lt]; simp only [Int32.reduceToInt]; omega) (by rw [Int32.le_iff_toInt_le]; simp only [Int32.reduceToInt]; omega) hk.symm
theorem nz_ps {x : Int64} (h : ¬ x ≤ 0) : ¬ x = 0 := fun q => h (by rw [q]; decide)
theorem nz_pl {x : Int64} (h : 0 < x) : ¬ x = 0 := fun q => by rw [q] at h; exact absurd h (by decide)
theorem nz_dl {x y : Int64} (h : y < x) : ¬ x - y = 0 := by
  intro q
  have h1 : x = y := by
    have h2 := congrArg (· + y) q
    simpa using h2
  rw [h1, Int64.lt_iff_toInt_lt] at h
  omega
theorem nz_sl {x : Int32} {y : Int64} (h : 1 ≤ x.toInt ∧ x.toInt ≤ 99) (hy : 0 ≤ y.toInt ∧ y.toInt ≤ 9) : ¬ x.toInt64 + y = 0 := by
  intro q
  have h1 := congrArg Int64.toInt q
  rw [Jvm.Kit.i64_add (by rw [Int32.toInt_toInt64]; omega) (by rw [Int32.toInt_toInt64]; omega), Int32.toInt_toInt64] at h1
  simp only [Int64.reduceToInt] at h1
  omega

def fX6_refuses (M : Mdl) (v : Int32) : Int32 × (Mdl) :=
  let x1 : Int32 := (M.2.2.2.2.2.1 (((-10000002) - v).toNatClampNeg)) + 1
  (v, (M.1, M.2.1, M.2.2.1, M.2.2.2.1, M.2.2.2.2.1, (upd M.2.2.2.2.2.1 (((-10000002) - v).toNatClampNeg) x1), M.2.2.2.2.2.2.1, M.2.2.2.2.2.2.2.1, M.2.2.2.2.2.2.2.2))
abbrev rX6_refuses : Room := { frames := 0, cells := 0, slots := 0, locals := 0 }
theorem mm_X6_refuses_1 : Cond.fieldLink RX6 19 "GaugeBoundsModel" "refusals" "[I" ∈ wsX6_refuses := List.mem_of_getElem? (i := 1) rfl
theorem mm_X6_refuses_2 : Cond.constant RX6 44 (-10000002) ∈ wsX6_refuses := List.mem_of_getElem? (i := 2) rfl
theorem ii_X6_refuses_X6 : ∀ w ∈ wsX60, w ∈ wsX6_refuses := fun _ h => List.mem_cons_of_mem _ (List.mem_append_right _ (h))
theorem qvX6_refuses : yX6_refuses.cls = RX6 ∧ yX6_refuses.cls ≠ "java/lang/invoke/MethodHandle" ∧ yX6_refuses.cls ≠ "java/lang/invoke/VarHandle" ∧ (parseMethodDescriptor yX6_refuses.desc).map (fun d => d.parameters.length) = some 1 := by decide +kernel
set_option maxHeartbeats 4000000 in
set_option maxRecDepth 100000 in
theorem kX6_refuses (l : Launch) (E : gEnv) (a : Nat → Nat) (M : Mdl) (v : Int32) (hv : vp_in ((-10000002) - v) 3) : gMi l E yX6_refuses wsX6_refuses rX6_refuses [.ref (a 0), .int v] (wM E a M) (fX6_refuses M v).1 (wM E a ((fX6_refuses M v).2)) := by
  refine gMi_of (cc := cX6_refuses) (maxL := 2) (ret := (some .int)) (by decide) rfl rfl (Nat.le_of_ble_eq_true rfl) ?_
  intro p e s m args below meth c A Q ls hB hQ
  obtain ⟨hx, hb, hml, hown, hts, hK, hP, hD, hA, hS, hl⟩ := hB
  have hown : s.vm.findClass RX6 = some m.cls := hown
  have hP : va_P E.1 vwCl [(a 0, .inr (6, [.ref (a 1), .ref (a 2), .ref (a 3), .int (M.1 0), .ref (a 4), .ref (a 5), .int (M.1 1), .int (M.1 2), .int (M.1 3), .ref (a 6), .ref (a 7), .int (M.1 4), .int (M.1 5), .int (M.1 6), .long M.2.1])), (a 1, .inl (eJ E, 68, .inr (.inl M.2.2.1))), (a 2, .inl (eJ E, 68, .inr (.inl M.2.2.2.1))), (a 3, .inl (eJ E, 340, .inr (.inl M.2.2.2.2.1))), (a 4, .inl (eI E, 3, .inl M.2.2.2.2.2.1)), (a 5, .inl (eI E, 120, .inl M.2.2.2.2.2.2.1)), (a 6, .inl (eI E, 60, .inl M.2.2.2.2.2.2.2.1)), (a 7, .inl (eI E, 120, .inl M.2.2.2.2.2.2.2.2))] s.heap := hP
  have hD : va_D A [(a 0, .inr (6, [.ref (a 1), .ref (a 2), .ref (a 3), .int (M.1 0), .ref (a 4), .ref (a 5), .int (M.1 1), .int (M.1 2), .int (M.1 3), .ref (a 6), .ref (a 7), .int (M.1 4), .int (M.1 5), .int (M.1 6), .long M.2.1])), (a 1, .inl (eJ E, 68, .inr (.inl M.2.2.1))), (a 2, .inl (eJ E, 68, .inr (.inl M.2.2.2.1))), (a 3, .inl (eJ E, 340, .inr (.inl M.2.2.2.2.1))), (a 4, .inl (eI E, 3, .inl M.2.2.2.2.2.1)), (a 5, .inl (eI E, 120, .inl M.2.2.2.2.2.2.1)), (a 6, .inl (eI E, 60, .inl M.2.2.2.2.2.2.2.1)), (a 7, .inl (eI E, 120, .inl M.2.2.2.2.2.2.2.2))] := hD
  have hl : lv_has ls 2 [(0, .ref (a 0)), (1, .int v)] := hl
  refine lv_aload_n (pc := 0) hx hb dX6_refuses_0 rfl (lv_at hl 0 rfl) ?_
  refine g_get (v := .ref (a 4)) (pc := 1) hx hb hts ii_X6_refuses_X6 hown hK.1 hP 0 rfl rfl 4 (by decide) ⟨rfl, rfl, rfl⟩ mm_X6_refuses_1 rfl dX6_refuses_1 ?_
  refine lv_ldc (v := (-10000002)) (pc := 4) hx hb hown (hts _ mm_X6_refuses_2) dX6_refuses_4 ?_
  refine lv_iload_n (pc := 6) hx hb dX6_refuses_6 rfl (lv_at hl 1 rfl) ?_
  refine lv_isub (pc := 7) hx hb dX6_refuses_7 ?_
  refine lv_dup2_11 (pc := 8) hx hb dX6_refuses_8 rfl rfl ?_
  refine g_iald (j := ((-10000002) - v).toNatClampNeg) (v := (M.2.2.2.2.2.1 (((-10000002) - v).toNatClampNeg))) (pc := 9) hx hb hK.1 hP 4 0 rfl rfl hv rfl rfl dX6_refuses_9 ?_
  refine lv_iconst (v := 1) (pc := 10) hx hb dX6_refuses_10 rfl ?_
  refine lv_iadd (pc := 11) hx hb dX6_refuses_11 ?_
  refine g_topi (fun x1 ex1 => ?_)
  refine g_iast (j := ((-10000002) - v).toNatClampNeg) (w1 := [(a 0, .inr (6, [.ref (a 1), .ref (a 2), .ref (a 3), .int (M.1 0), .ref (a 4), .ref (a 5), .int (M.1 1), .int (M.1 2), .int (M.1 3), .ref (a 6), .ref (a 7), .int (M.1 4), .int (M.1 5), .int (M.1 6), .long M.2.1])), (a 1, .inl (eJ E, 68, .inr (.inl M.2.2.1))), (a 2, .inl (eJ E, 68, .inr (.inl M.2.2.2.1))), (a 3, .inl (eJ E, 340, .inr (.inl M.2.2.2.2.1))), (a 4, .inl (eI E, 3, .inl (upd M.2.2.2.2.2.1 (((-10000002) - v).toNatClampNeg) x1))), (a 5, .inl (eI E, 120, .inl M.2.2.2.2.2.2.1)), (a 6, .inl (eI E, 60, .inl M.2.2.2.2.2.2.2.1)), (a 7, .inl (eI E, 120, .inl M.2.2.2.2.2.2.2.2))]) (pc := 12) hx hb hK.1 hP hD hS 4 0 rfl rfl hv rfl rfl dX6_refuses_12 (fun H locs hP hD hS => ?_)
  refine lv_iload_n (pc := 13) hx hb dX6_refuses_13 rfl (lv_at hl 1 rfl) ?_
  subst ex1
  exact hQ _ _ _ _ _ rfl hP hD hS dX6_refuses_14

def lpCp (src dst : Nat → Int64) : Nat → Nat → Int64
  | 0 => dst
  | i + 1 => vp_updL (lpCp src dst i) i (src i)
def lpRow (src dst : Nat → Int64) (b : Nat) : Nat → Nat → Int64
  | 0 => dst
  | i + 1 => vp_updL (lpRow src dst b i) (68 * b + i) (src i)
def lpBk (src dst : Nat → Int64) (b : Nat) : Nat → Nat → Int64
  | 0 => dst
  | i + 1 => vp_updL (lpBk src dst b i) i (src (68 * b + i))
def lpShift (P : Nat → Int64) : Nat → Nat → Int64
  | 0 => P
  | i + 1 => vp_updL (lpShift P i) i (lpShift P i (i + 68))
def lpZ (f : Nat → Int64) (b : Nat) : Nat → Nat → Int64
  | 0 => f
  | i + 1 => vp_updL (lpZ f b i) (b + i) 0
theorem ix_row {x : Int32} {i : Nat} (h : 0 ≤ x.toInt ∧ x.toInt ≤ 4) (hi : i < 68) : vp_in (68 * x + nI i) 340 ∧ (68 * x + nI i).toNatClampNeg = 68 * x.toNatClampNeg + i := by
  obtain ⟨j, hj, rfl⟩ : ∃ j : Nat, j < 2 ^ 31 ∧ x = nI j := nI_of (by rw [Int32.lt_iff_toInt_lt]; simp only [Int32.reduceToInt]; omega)
  rw [nI_toInt hj] at h
  have e : (68 : Int32) * nI j + nI i = nI (68 * j + i) := by rw [show (68 : Int32) = nI 68 from rfl, pk_mul, nI_add]
  rw [e, nI_clamp hj]
  exact ⟨vp_in_nI (by omega) (by decide), nI_clamp (by omega)⟩
theorem st_5 {x y : Int32} (h : x = 5) (e : x - 1 = y) : 0 ≤ y.toInt ∧ y.toInt ≤ 4 := by subst h; subst e; decide
theorem st_n {x : Int32} (h : 0 ≤ x.toInt ∧ x.toInt ≤ 5) (e : ¬ x = 5) : 0 ≤ x.toInt ∧ x.toInt ≤ 4 := by
  rw [← Int32.toInt_inj] at e
  simp only [Int32.reduceToInt] at e
  omega
theorem st_m {x y : Int32} (h : 0 ≤ x.toInt ∧ x.toInt ≤ 5) (h0 : ¬ x = 0) (e : x - 1 = y) : 0 ≤ y.toInt ∧ y.toInt ≤ 4 := by
  subst e
  rw [← Int32.toInt_inj] at h0
  simp only [Int32.reduceToInt] at h0
  have e1 : (x - 1).toInt = x.toInt - 1 := Jvm.Kit.i32_sub (y := 1) (by simp only [Int32.reduceToInt]; omega) (by simp only [Int32.reduceToInt]; omega)
  omega

def fX6_laysAside (M : Mdl) : Mdl :=
  (M.1, M.2.1, M.2.2.1, (lpCp M.2.2.1 M.2.2.2.1 68), M.2.2.2.2.1, M.2.2.2.2.2.1, M.2.2.2.2.2.2.1, M.2.2.2.2.2.2.2.1, M.2.2.2.2.2.2.2.2)
abbrev rX6_laysAside : Room := { frames := 0, cells := 0, slots := 0, locals := 0 }
theorem mm_X6_laysAside_1 : Cond.fieldLink RX6 13 "GaugeBoundsModel" "aside" "[J" ∈ wsX6_laysAside := List.mem_of_getElem? (i := 1) rfl
theorem mm_X6_laysAside_2 : Cond.fieldLink RX6 7 "GaugeBoundsModel" "now" "[J" ∈ wsX6_laysAside := List.mem_of_getElem? (i := 2) rfl
theorem ii_X6_laysAside_X6 : ∀ w ∈ wsX60, w ∈ wsX6_laysAside := fun _ h => List.mem_cons_of_mem _ (List.mem_append_right _ (h))
theorem qvX6_laysAside : yX6_laysAside.cls = RX6 ∧ yX6_laysAside.cls ≠ "java/lang/invoke/MethodHandle" ∧ yX6_laysAside.cls ≠ "java/lang/invoke/VarHandle" ∧ (parseMethodDescriptor yX6_laysAside.desc).map (fun d => d.parameters.length) = some 0 := by decide +kernel
set_option maxHeartbeats 4000000 in
set_option maxRecDepth 100000 in
theorem kX6_laysAside (l : Launch) (E : gEnv) (a : Nat → Nat) (M : Mdl) : gMv l E yX6_laysAside wsX6_laysAside rX6_laysAside [.ref (a 0)] (wM E a M) (wM E a (fX6_laysAside M)) := by
  refine gMv_of (cc := cX6_laysAside) (maxL := 2) (ret := none) (by decide) rfl rfl (Nat.le_of_ble_eq_true rfl) ?_
  intro p e s m args below meth c A Q ls hB hQ
  obtain ⟨hx, hb, hml, hown, hts, hK, hP, hD, hA, hS, hl⟩ := hB
  have hown : s.vm.findClass RX6 = some m.cls := hown
  have hP : va_P E.1 vwCl [(a 0, .inr (6, [.ref (a 1), .ref (a 2), .ref (a 3), .int (M.1 0), .ref (a 4), .ref (a 5), .int (M.1 1), .int (M.1 2), .int (M.1 3), .ref (a 6), .ref (a 7), .int (M.1 4), .int (M.1 5), .int (M.1 6), .long M.2.1])), (a 1, .inl (eJ E, 68, .inr (.inl M.2.2.1))), (a 2, .inl (eJ E, 68, .inr (.inl M.2.2.2.1))), (a 3, .inl (eJ E, 340, .inr (.inl M.2.2.2.2.1))), (a 4, .inl (eI E, 3, .inl M.2.2.2.2.2.1)), (a 5, .inl (eI E, 120, .inl M.2.2.2.2.2.2.1)), (a 6, .inl (eI E, 60, .inl M.2.2.2.2.2.2.2.1)), (a 7, .inl (eI E, 120, .inl M.2.2.2.2.2.2.2.2))] s.heap := hP
  have hD : va_D A [(a 0, .inr (6, [.ref (a 1), .ref (a 2), .ref (a 3), .int (M.1 0), .ref (a 4), .ref (a 5), .int (M.1 1), .int (M.1 2), .int (M.1 3), .ref (a 6), .ref (a 7), .int (M.1 4), .int (M.1 5), .int (M.1 6), .long M.2.1])), (a 1, .inl (eJ E, 68, .inr (.inl M.2.2.1))), (a 2, .inl (eJ E, 68, .inr (.inl M.2.2.2.1))), (a 3, .inl (eJ E, 340, .inr (.inl M.2.2.2.2.1))), (a 4, .inl (eI E, 3, .inl M.2.2.2.2.2.1)), (a 5, .inl (eI E, 120, .inl M.2.2.2.2.2.2.1)), (a 6, .inl (eI E, 60, .inl M.2.2.2.2.2.2.2.1)), (a 7, .inl (eI E, 120, .inl M.2.2.2.2.2.2.2.2))] := hD
  have hl : lv_has ls 2 [(0, .ref (a 0))] := hl
  refine lv_iconst (v := 0) (pc := 0) hx hb dX6_laysAside_0 rfl ?_
  refine lv_istore_n (lv' := [(1, .int 0), (0, .ref (a 0))]) (pc := 1) hx hb dX6_laysAside_1 rfl hl (by decide) rfl (fun ls hl => ?_)
  have loop4 : ∀ (n2 i1 : Nat), i1 + n2 = 68 → ∀ (H : Heap) (locs : List Loc) (ls : Array Slot), va_P E.1 vwCl [(a 0, .inr (6, [.ref (a 1), .ref (a 2), .ref (a 3), .int (M.1 0), .ref (a 4), .ref (a 5), .int (M.1 1), .int (M.1 2), .int (M.1 3), .ref (a 6), .ref (a 7), .int (M.1 4), .int (M.1 5), .int (M.1 6), .long M.2.1])), (a 1, .inl (eJ E, 68, .inr (.inl M.2.2.1))), (a 2, .inl (eJ E, 68, .inr (.inl (lpCp M.2.2.1 M.2.2.2.1 i1)))), (a 3, .inl (eJ E, 340, .inr (.inl M.2.2.2.2.1))), (a 4, .inl (eI E, 3, .inl M.2.2.2.2.2.1)), (a 5, .inl (eI E, 120, .inl M.2.2.2.2.2.2.1)), (a 6, .inl (eI E, 60, .inl M.2.2.2.2.2.2.2.1)), (a 7, .inl (eI E, 120, .inl M.2.2.2.2.2.2.2.2))] H → va_D A [(a 0, .inr (6, [.ref (a 1), .ref (a 2), .ref (a 3), .int (M.1 0), .ref (a 4), .ref (a 5), .int (M.1 1), .int (M.1 2), .int (M.1 3), .ref (a 6), .ref (a 7), .int (M.1 4), .int (M.1 5), .int (M.1 6), .long M.2.1])), (a 1, .inl (eJ E, 68, .inr (.inl M.2.2.1))), (a 2, .inl (eJ E, 68, .inr (.inl (lpCp M.2.2.1 M.2.2.2.1 i1)))), (a 3, .inl (eJ E, 340, .inr (.inl M.2.2.2.2.1))), (a 4, .inl (eI E, 3, .inl M.2.2.2.2.2.1)), (a 5, .inl (eI E, 120, .inl M.2.2.2.2.2.2.1)), (a 6, .inl (eI E, 60, .inl M.2.2.2.2.2.2.2.1)), (a 7, .inl (eI E, 120, .inl M.2.2.2.2.2.2.2.2))] → va_S A s.heap H locs → lv_has ls 2 [(0, .ref (a 0)), (1, .int (nI i1))] → W p l e rX6_laysAside s m args below meth c H locs 0 0 Q (F0 m 2 ls []) := by
    intro n2
    induction n2 with
    | zero =>
      intro i1 hi H locs ls hP hD hS hl
      obtain rfl : i1 = 68 := by omega
      refine lv_iload_n (pc := 2) hx hb dX6_laysAside_2 rfl (lv_at hl 1 rfl) ?_
      refine lv_bipush (v := 68) (pc := 3) hx hb dX6_laysAside_3 rfl ?_
      refine lv_icmp_ge (tgt := 26) (pc := 5) hx hb dX6_laysAside_5 (by decide) (fun c_5 => ?_) (fun c_5 => ?_)
      rotate_left
      · exact absurd (nI_le (a := 68) (b := 68) (by decide) (by decide)) c_5
      exact hQ _ _ _ _ hP hD hS dX6_laysAside_26
    | succ n2 ih3 =>
      intro i1 hi H locs ls hP hD hS hl
      have hlt : i1 < 68 := by omega
      refine lv_iload_n (pc := 2) hx hb dX6_laysAside_2 rfl (lv_at hl 1 rfl) ?_
      refine lv_bipush (v := 68) (pc := 3) hx hb dX6_laysAside_3 rfl ?_
      refine lv_icmp_ge (tgt := 26) (pc := 5) hx hb dX6_laysAside_5 (by decide) (fun c_6 => ?_) (fun c_6 => ?_)
      · exact absurd c_6 (nI_ge (a := i1) (b := 68) (by omega) (by decide))
      refine lv_aload_n (pc := 8) hx hb dX6_laysAside_8 rfl (lv_at hl 0 rfl) ?_
      refine g_get (v := .ref (a 2)) (pc := 9) hx hb hts ii_X6_laysAside_X6 hown hK.1 hP 0 rfl rfl 1 (by decide) ⟨rfl, rfl, rfl⟩ mm_X6_laysAside_1 rfl dX6_laysAside_9 ?_
      refine lv_iload_n (pc := 12) hx hb dX6_laysAside_12 rfl (lv_at hl 1 rfl) ?_
      refine lv_aload_n (pc := 13) hx hb dX6_laysAside_13 rfl (lv_at hl 0 rfl) ?_
      refine g_get (v := .ref (a 1)) (pc := 14) hx hb hts ii_X6_laysAside_X6 hown hK.1 hP 0 rfl rfl 0 (by decide) ⟨rfl, rfl, rfl⟩ mm_X6_laysAside_2 rfl dX6_laysAside_14 ?_
      refine lv_iload_n (pc := 17) hx hb dX6_laysAside_17 rfl (lv_at hl 1 rfl) ?_
      refine g_lald (j := i1) (v := (M.2.2.1 i1)) (pc := 18) hx hb hK.1 hP 1 1 rfl rfl (vp_in_nI (by omega) (by decide)) (nI_clamp (by omega)) rfl dX6_laysAside_18 ?_
      refine g_topl (fun x7 ex7 => ?_)
      refine g_last (j := i1) (w1 := [(a 0, .inr (6, [.ref (a 1), .ref (a 2), .ref (a 3), .int (M.1 0), .ref (a 4), .ref (a 5), .int (M.1 1), .int (M.1 2), .int (M.1 3), .ref (a 6), .ref (a 7), .int (M.1 4), .int (M.1 5), .int (M.1 6), .long M.2.1])), (a 1, .inl (eJ E, 68, .inr (.inl M.2.2.1))), (a 2, .inl (eJ E, 68, .inr (.inl (vp_updL (lpCp M.2.2.1 M.2.2.2.1 i1) i1 x7)))), (a 3, .inl (eJ E, 340, .inr (.inl M.2.2.2.2.1))), (a 4, .inl (eI E, 3, .inl M.2.2.2.2.2.1)), (a 5, .inl (eI E, 120, .inl M.2.2.2.2.2.2.1)), (a 6, .inl (eI E, 60, .inl M.2.2.2.2.2.2.2.1)), (a 7, .inl (eI E, 120, .inl M.2.2.2.2.2.2.2.2))]) (pc := 19) hx hb hK.1 hP hD hS 2 1 rfl rfl (vp_in_nI (by omega) (by decide)) (nI_clamp (by omega)) rfl dX6_laysAside_19 (fun H locs hP hD hS => ?_)
      refine lv_iinc (v := nI (i1 + 1)) (lv' := [(1, .int (nI (i1 + 1))), (0, .ref (a 0))]) (pc := 20) hx hb dX6_laysAside_20 hl (k := 1) rfl (nI_1 i1) (by decide) rfl (fun ls hl => ?_)
      refine lv_goto (tgt := 2) (pc := 23) hx hb dX6_laysAside_23 (by decide) ?_
      subst ex7
      exact ih3 (i1 + 1) (by omega) _ _ _ hP hD hS (lv_sub hl [1, 0] rfl)
  exact loop4 68 0 (by decide) _ _ _ hP hD hS (lv_sub hl [1, 0] rfl)

def fX6_remembers (M : Mdl) : Mdl :=
  if (M.1 0) = 5 then
    let x15 : Int32 := (M.1 0) - 1
    let x21 : Int32 := x15 + 1
    ((upd (upd M.1 0 x15) 0 x21), M.2.1, M.2.2.1, M.2.2.2.1, (lpRow M.2.2.2.1 (lpShift M.2.2.2.2.1 272) x15.toNatClampNeg 68), M.2.2.2.2.2.1, M.2.2.2.2.2.2.1, M.2.2.2.2.2.2.2.1, M.2.2.2.2.2.2.2.2)
  else
    let x7 : Int32 := (M.1 0) + 1
    ((upd M.1 0 x7), M.2.1, M.2.2.1, M.2.2.2.1, (lpRow M.2.2.2.1 M.2.2.2.2.1 (M.1 0).toNatClampNeg 68), M.2.2.2.2.2.1, M.2.2.2.2.2.2.1, M.2.2.2.2.2.2.2.1, M.2.2.2.2.2.2.2.2)
abbrev rX6_remembers : Room := { frames := 0, cells := 0, slots := 0, locals := 0 }
theorem mm_X6_remembers_1 : Cond.fieldLink RX6 45 "GaugeBoundsModel" "states" "I" ∈ wsX6_remembers := List.mem_of_getElem? (i := 1) rfl
theorem mm_X6_remembers_2 : Cond.fieldLink RX6 16 "GaugeBoundsModel" "past" "[J" ∈ wsX6_remembers := List.mem_of_getElem? (i := 2) rfl
theorem mm_X6_remembers_3 : Cond.fieldLink RX6 13 "GaugeBoundsModel" "aside" "[J" ∈ wsX6_remembers := List.mem_of_getElem? (i := 3) rfl
theorem ii_X6_remembers_X6 : ∀ w ∈ wsX60, w ∈ wsX6_remembers := fun _ h => List.mem_cons_of_mem _ (List.mem_append_right _ (h))
theorem qvX6_remembers : yX6_remembers.cls = RX6 ∧ yX6_remembers.cls ≠ "java/lang/invoke/MethodHandle" ∧ yX6_remembers.cls ≠ "java/lang/invoke/VarHandle" ∧ (parseMethodDescriptor yX6_remembers.desc).map (fun d => d.parameters.length) = some 0 := by decide +kernel
set_option maxHeartbeats 4000000 in
set_option maxRecDepth 100000 in
theorem kX6_remembers (l : Launch) (E : gEnv) (a : Nat → Nat) (M : Mdl) (hn : 0 ≤ (M.1 0).toInt ∧ (M.1 0).toInt ≤ 5) : gMv l E yX6_remembers wsX6_remembers rX6_remembers [.ref (a 0)] (wM E a M) (wM E a (fX6_remembers M)) := by
  refine gMv_of (cc := cX6_remembers) (maxL := 2) (ret := none) (by decide) rfl rfl (Nat.le_of_ble_eq_true rfl) ?_
  intro p e s m args below meth c A Q ls hB hQ
  obtain ⟨hx, hb, hml, hown, hts, hK, hP, hD, hA, hS, hl⟩ := hB
  have hown : s.vm.findClass RX6 = some m.cls := hown
  have hP : va_P E.1 vwCl [(a 0, .inr (6, [.ref (a 1), .ref (a 2), .ref (a 3), .int (M.1 0), .ref (a 4), .ref (a 5), .int (M.1 1), .int (M.1 2), .int (M.1 3), .ref (a 6), .ref (a 7), .int (M.1 4), .int (M.1 5), .int (M.1 6), .long M.2.1])), (a 1, .inl (eJ E, 68, .inr (.inl M.2.2.1))), (a 2, .inl (eJ E, 68, .inr (.inl M.2.2.2.1))), (a 3, .inl (eJ E, 340, .inr (.inl M.2.2.2.2.1))), (a 4, .inl (eI E, 3, .inl M.2.2.2.2.2.1)), (a 5, .inl (eI E, 120, .inl M.2.2.2.2.2.2.1)), (a 6, .inl (eI E, 60, .inl M.2.2.2.2.2.2.2.1)), (a 7, .inl (eI E, 120, .inl M.2.2.2.2.2.2.2.2))] s.heap := hP
  have hD : va_D A [(a 0, .inr (6, [.ref (a 1), .ref (a 2), .ref (a 3), .int (M.1 0), .ref (a 4), .ref (a 5), .int (M.1 1), .int (M.1 2), .int (M.1 3), .ref (a 6), .ref (a 7), .int (M.1 4), .int (M.1 5), .int (M.1 6), .long M.2.1])), (a 1, .inl (eJ E, 68, .inr (.inl M.2.2.1))), (a 2, .inl (eJ E, 68, .inr (.inl M.2.2.2.1))), (a 3, .inl (eJ E, 340, .inr (.inl M.2.2.2.2.1))), (a 4, .inl (eI E, 3, .inl M.2.2.2.2.2.1)), (a 5, .inl (eI E, 120, .inl M.2.2.2.2.2.2.1)), (a 6, .inl (eI E, 60, .inl M.2.2.2.2.2.2.2.1)), (a 7, .inl (eI E, 120, .inl M.2.2.2.2.2.2.2.2))] := hD
  have hl : lv_has ls 2 [(0, .ref (a 0))] := hl
  refine lv_aload_n (pc := 0) hx hb dX6_remembers_0 rfl (lv_at hl 0 rfl) ?_
  refine g_get (v := .int (M.1 0)) (pc := 1) hx hb hts ii_X6_remembers_X6 hown hK.1 hP 0 rfl rfl 3 (by decide) ⟨rfl, rfl, rfl⟩ mm_X6_remembers_1 rfl dX6_remembers_1 ?_
  refine lv_iconst (v := 5) (pc := 4) hx hb dX6_remembers_4 rfl ?_
  refine lv_icmp_ne (tgt := 48) (pc := 5) hx hb dX6_remembers_5 (by decide) (fun c_1 => ?_) (fun c_1 => ?_)
  · refine lv_iconst (v := 0) (pc := 48) hx hb dX6_remembers_48 rfl ?_
    refine lv_istore_n (lv' := [(1, .int 0), (0, .ref (a 0))]) (pc := 49) hx hb dX6_remembers_49 rfl hl (by decide) rfl (fun ls hl => ?_)
    have loop5 : ∀ (n3 i2 : Nat), i2 + n3 = 68 → ∀ (H : Heap) (locs : List Loc) (ls : Array Slot), va_P E.1 vwCl [(a 0, .inr (6, [.ref (a 1), .ref (a 2), .ref (a 3), .int (M.1 0), .ref (a 4), .ref (a 5), .int (M.1 1), .int (M.1 2), .int (M.1 3), .ref (a 6), .ref (a 7), .int (M.1 4), .int (M.1 5), .int (M.1 6), .long M.2.1])), (a 1, .inl (eJ E, 68, .inr (.inl M.2.2.1))), (a 2, .inl (eJ E, 68, .inr (.inl M.2.2.2.1))), (a 3, .inl (eJ E, 340, .inr (.inl (lpRow M.2.2.2.1 M.2.2.2.2.1 (M.1 0).toNatClampNeg i2)))), (a 4, .inl (eI E, 3, .inl M.2.2.2.2.2.1)), (a 5, .inl (eI E, 120, .inl M.2.2.2.2.2.2.1)), (a 6, .inl (eI E, 60, .inl M.2.2.2.2.2.2.2.1)), (a 7, .inl (eI E, 120, .inl M.2.2.2.2.2.2.2.2))] H → va_D A [(a 0, .inr (6, [.ref (a 1), .ref (a 2), .ref (a 3), .int (M.1 0), .ref (a 4), .ref (a 5), .int (M.1 1), .int (M.1 2), .int (M.1 3), .ref (a 6), .ref (a 7), .int (M.1 4), .int (M.1 5), .int (M.1 6), .long M.2.1])), (a 1, .inl (eJ E, 68, .inr (.inl M.2.2.1))), (a 2, .inl (eJ E, 68, .inr (.inl M.2.2.2.1))), (a 3, .inl (eJ E, 340, .inr (.inl (lpRow M.2.2.2.1 M.2.2.2.2.1 (M.1 0).toNatClampNeg i2)))), (a 4, .inl (eI E, 3, .inl M.2.2.2.2.2.1)), (a 5, .inl (eI E, 120, .inl M.2.2.2.2.2.2.1)), (a 6, .inl (eI E, 60, .inl M.2.2.2.2.2.2.2.1)), (a 7, .inl (eI E, 120, .inl M.2.2.2.2.2.2.2.2))] → va_S A s.heap H locs → lv_has ls 2 [(0, .ref (a 0)), (1, .int (nI i2))] → W p l e rX6_remembers s m args below meth c H locs 0 0 Q (F0 m 50 ls []) := by
      intro n3
      induction n3 with
      | zero =>
        intro i2 hi H locs ls hP hD hS hl
        obtain rfl : i2 = 68 := by omega
        refine lv_iload_n (pc := 50) hx hb dX6_remembers_50 rfl (lv_at hl 1 rfl) ?_
        refine lv_bipush (v := 68) (pc := 51) hx hb dX6_remembers_51 rfl ?_
        refine lv_icmp_ge (tgt := 82) (pc := 53) hx hb dX6_remembers_53 (by decide) (fun c_6 => ?_) (fun c_6 => ?_)
        rotate_left
        · exact absurd (nI_le (a := 68) (b := 68) (by decide) (by decide)) c_6
        refine lv_aload_n (pc := 82) hx hb dX6_remembers_82 rfl (lv_at hl 0 rfl) ?_
        refine lv_dup (pc := 83) hx hb dX6_remembers_83 rfl ?_
        refine g_get (v := .int (M.1 0)) (pc := 84) hx hb hts ii_X6_remembers_X6 hown hK.1 hP 0 rfl rfl 3 (by decide) ⟨rfl, rfl, rfl⟩ mm_X6_remembers_1 rfl dX6_remembers_84 ?_
        refine lv_iconst (v := 1) (pc := 87) hx hb dX6_remembers_87 rfl ?_
        refine lv_iadd (pc := 88) hx hb dX6_remembers_88 ?_
        refine g_topi (fun x7 ex7 => ?_)
        refine g_put (w1 := [(a 0, .inr (6, [.ref (a 1), .ref (a 2), .ref (a 3), .int x7, .ref (a 4), .ref (a 5), .int (M.1 1), .int (M.1 2), .int (M.1 3), .ref (a 6), .ref (a 7), .int (M.1 4), .int (M.1 5), .int (M.1 6), .long M.2.1])), (a 1, .inl (eJ E, 68, .inr (.inl M.2.2.1))), (a 2, .inl (eJ E, 68, .inr (.inl M.2.2.2.1))), (a 3, .inl (eJ E, 340, .inr (.inl (lpRow M.2.2.2.1 M.2.2.2.2.1 (M.1 0).toNatClampNeg 68)))), (a 4, .inl (eI E, 3, .inl M.2.2.2.2.2.1)), (a 5, .inl (eI E, 120, .inl M.2.2.2.2.2.2.1)), (a 6, .inl (eI E, 60, .inl M.2.2.2.2.2.2.2.1)), (a 7, .inl (eI E, 120, .inl M.2.2.2.2.2.2.2.2))]) (pc := 89) hx hb hts ii_X6_remembers_X6 tyX6 tyX6_ok nmX6 hown hK.1 hP hD hS 0 rfl rfl 3 (by decide) ⟨rfl, rfl, rfl⟩ mm_X6_remembers_1 rfl rfl rfl rfl (Nat.le_of_ble_eq_true rfl) rfl dX6_remembers_89 (fun H locs hP hD hS => ?_)
        subst ex7
        have hfn : fX6_remembers M = _ := if_neg c_1
        rw [hfn] at hQ
        exact hQ _ _ _ _ hP hD hS dX6_remembers_92
      | succ n3 ih4 =>
        intro i2 hi H locs ls hP hD hS hl
        have hlt : i2 < 68 := by omega
        refine lv_iload_n (pc := 50) hx hb dX6_remembers_50 rfl (lv_at hl 1 rfl) ?_
        refine lv_bipush (v := 68) (pc := 51) hx hb dX6_remembers_51 rfl ?_
        refine lv_icmp_ge (tgt := 82) (pc := 53) hx hb dX6_remembers_53 (by decide) (fun c_8 => ?_) (fun c_8 => ?_)
        · exact absurd c_8 (nI_ge (a := i2) (b := 68) (by omega) (by decide))
        refine lv_aload_n (pc := 56) hx hb dX6_remembers_56 rfl (lv_at hl 0 rfl) ?_
        refine g_get (v := .ref (a 3)) (pc := 57) hx hb hts ii_X6_remembers_X6 hown hK.1 hP 0 rfl rfl 2 (by decide) ⟨rfl, rfl, rfl⟩ mm_X6_remembers_2 rfl dX6_remembers_57 ?_
        refine lv_bipush (v := 68) (pc := 60) hx hb dX6_remembers_60 rfl ?_
        refine lv_aload_n (pc := 62) hx hb dX6_remembers_62 rfl (lv_at hl 0 rfl) ?_
        refine g_get (v := .int (M.1 0)) (pc := 63) hx hb hts ii_X6_remembers_X6 hown hK.1 hP 0 rfl rfl 3 (by decide) ⟨rfl, rfl, rfl⟩ mm_X6_remembers_1 rfl dX6_remembers_63 ?_
        refine lv_imul (pc := 66) hx hb dX6_remembers_66 ?_
        refine lv_iload_n (pc := 67) hx hb dX6_remembers_67 rfl (lv_at hl 1 rfl) ?_
        refine lv_iadd (pc := 68) hx hb dX6_remembers_68 ?_
        refine lv_aload_n (pc := 69) hx hb dX6_remembers_69 rfl (lv_at hl 0 rfl) ?_
        refine g_get (v := .ref (a 2)) (pc := 70) hx hb hts ii_X6_remembers_X6 hown hK.1 hP 0 rfl rfl 1 (by decide) ⟨rfl, rfl, rfl⟩ mm_X6_remembers_3 rfl dX6_remembers_70 ?_
        refine lv_iload_n (pc := 73) hx hb dX6_remembers_73 rfl (lv_at hl 1 rfl) ?_
        refine g_lald (j := i2) (v := (M.2.2.2.1 i2)) (pc := 74) hx hb hK.1 hP 2 1 rfl rfl (vp_in_nI (by omega) (by decide)) (nI_clamp (by omega)) rfl dX6_remembers_74 ?_
        refine g_topl (fun x9 ex9 => ?_)
        refine g_last (j := 68 * (M.1 0).toNatClampNeg + i2) (w1 := [(a 0, .inr (6, [.ref (a 1), .ref (a 2), .ref (a 3), .int (M.1 0), .ref (a 4), .ref (a 5), .int (M.1 1), .int (M.1 2), .int (M.1 3), .ref (a 6), .ref (a 7), .int (M.1 4), .int (M.1 5), .int (M.1 6), .long M.2.1])), (a 1, .inl (eJ E, 68, .inr (.inl M.2.2.1))), (a 2, .inl (eJ E, 68, .inr (.inl M.2.2.2.1))), (a 3, .inl (eJ E, 340, .inr (.inl (vp_updL (lpRow M.2.2.2.1 M.2.2.2.2.1 (M.1 0).toNatClampNeg i2) (68 * (M.1 0).toNatClampNeg + i2) x9)))), (a 4, .inl (eI E, 3, .inl M.2.2.2.2.2.1)), (a 5, .inl (eI E, 120, .inl M.2.2.2.2.2.2.1)), (a 6, .inl (eI E, 60, .inl M.2.2.2.2.2.2.2.1)), (a 7, .inl (eI E, 120, .inl M.2.2.2.2.2.2.2.2))]) (pc := 75) hx hb hK.1 hP hD hS 3 1 rfl rfl (ix_row (st_n hn c_1) hlt).1 (ix_row (st_n hn c_1) hlt).2 rfl dX6_remembers_75 (fun H locs hP hD hS => ?_)
        refine lv_iinc (v := nI (i2 + 1)) (lv' := [(1, .int (nI (i2 + 1))), (0, .ref (a 0))]) (pc := 76) hx hb dX6_remembers_76 hl (k := 1) rfl (nI_1 i2) (by decide) rfl (fun ls hl => ?_)
        refine lv_goto (tgt := 50) (pc := 79) hx hb dX6_remembers_79 (by decide) ?_
        subst ex9
        exact ih4 (i2 + 1) (by omega) _ _ _ hP hD hS (lv_sub hl [1, 0] rfl)
    exact loop5 68 0 (by decide) _ _ _ hP hD hS (lv_sub hl [1, 0] rfl)
  · refine lv_iconst (v := 0) (pc := 8) hx hb dX6_remembers_8 rfl ?_
    refine lv_istore_n (lv' := [(1, .int 0), (0, .ref (a 0))]) (pc := 9) hx hb dX6_remembers_9 rfl hl (by decide) rfl (fun ls hl => ?_)
    have loop13 : ∀ (n11 i10 : Nat), i10 + n11 = 272 → ∀ (H : Heap) (locs : List Loc) (ls : Array Slot), va_P E.1 vwCl [(a 0, .inr (6, [.ref (a 1), .ref (a 2), .ref (a 3), .int (M.1 0), .ref (a 4), .ref (a 5), .int (M.1 1), .int (M.1 2), .int (M.1 3), .ref (a 6), .ref (a 7), .int (M.1 4), .int (M.1 5), .int (M.1 6), .long M.2.1])), (a 1, .inl (eJ E, 68, .inr (.inl M.2.2.1))), (a 2, .inl (eJ E, 68, .inr (.inl M.2.2.2.1))), (a 3, .inl (eJ E, 340, .inr (.inl (lpShift M.2.2.2.2.1 i10)))), (a 4, .inl (eI E, 3, .inl M.2.2.2.2.2.1)), (a 5, .inl (eI E, 120, .inl M.2.2.2.2.2.2.1)), (a 6, .inl (eI E, 60, .inl M.2.2.2.2.2.2.2.1)), (a 7, .inl (eI E, 120, .inl M.2.2.2.2.2.2.2.2))] H → va_D A [(a 0, .inr (6, [.ref (a 1), .ref (a 2), .ref (a 3), .int (M.1 0), .ref (a 4), .ref (a 5), .int (M.1 1), .int (M.1 2), .int (M.1 3), .ref (a 6), .ref (a 7), .int (M.1 4), .int (M.1 5), .int (M.1 6), .long M.2.1])), (a 1, .inl (eJ E, 68, .inr (.inl M.2.2.1))), (a 2, .inl (eJ E, 68, .inr (.inl M.2.2.2.1))), (a 3, .inl (eJ E, 340, .inr (.inl (lpShift M.2.2.2.2.1 i10)))), (a 4, .inl (eI E, 3, .inl M.2.2.2.2.2.1)), (a 5, .inl (eI E, 120, .inl M.2.2.2.2.2.2.1)), (a 6, .inl (eI E, 60, .inl M.2.2.2.2.2.2.2.1)), (a 7, .inl (eI E, 120, .inl M.2.2.2.2.2.2.2.2))] → va_S A s.heap H locs → lv_has ls 2 [(0, .ref (a 0)), (1, .int (nI i10))] → W p l e rX6_remembers s m args below meth c H locs 0 0 Q (F0 m 10 ls []) := by
      intro n11
      induction n11 with
      | zero =>
        intro i10 hi H locs ls hP hD hS hl
        obtain rfl : i10 = 272 := by omega
        refine lv_iload_n (pc := 10) hx hb dX6_remembers_10 rfl (lv_at hl 1 rfl) ?_
        refine lv_sipush (v := 272) (pc := 11) hx hb dX6_remembers_11 rfl ?_
        refine lv_icmp_ge (tgt := 38) (pc := 14) hx hb dX6_remembers_14 (by decide) (fun c_14 => ?_) (fun c_14 => ?_)
        rotate_left
        · exact absurd (nI_le (a := 272) (b := 272) (by decide) (by decide)) c_14
        refine lv_aload_n (pc := 38) hx hb dX6_remembers_38 rfl (lv_at hl 0 rfl) ?_
        refine lv_dup (pc := 39) hx hb dX6_remembers_39 rfl ?_
        refine g_get (v := .int (M.1 0)) (pc := 40) hx hb hts ii_X6_remembers_X6 hown hK.1 hP 0 rfl rfl 3 (by decide) ⟨rfl, rfl, rfl⟩ mm_X6_remembers_1 rfl dX6_remembers_40 ?_
        refine lv_iconst (v := 1) (pc := 43) hx hb dX6_remembers_43 rfl ?_
        refine lv_isub (pc := 44) hx hb dX6_remembers_44 ?_
        refine g_topi (fun x15 ex15 => ?_)
        refine g_put (w1 := [(a 0, .inr (6, [.ref (a 1), .ref (a 2), .ref (a 3), .int x15, .ref (a 4), .ref (a 5), .int (M.1 1), .int (M.1 2), .int (M.1 3), .ref (a 6), .ref (a 7), .int (M.1 4), .int (M.1 5), .int (M.1 6), .long M.2.1])), (a 1, .inl (eJ E, 68, .inr (.inl M.2.2.1))), (a 2, .inl (eJ E, 68, .inr (.inl M.2.2.2.1))), (a 3, .inl (eJ E, 340, .inr (.inl (lpShift M.2.2.2.2.1 272)))), (a 4, .inl (eI E, 3, .inl M.2.2.2.2.2.1)), (a 5, .inl (eI E, 120, .inl M.2.2.2.2.2.2.1)), (a 6, .inl (eI E, 60, .inl M.2.2.2.2.2.2.2.1)), (a 7, .inl (eI E, 120, .inl M.2.2.2.2.2.2.2.2))]) (pc := 45) hx hb hts ii_X6_remembers_X6 tyX6 tyX6_ok nmX6 hown hK.1 hP hD hS 0 rfl rfl 3 (by decide) ⟨rfl, rfl, rfl⟩ mm_X6_remembers_1 rfl rfl rfl rfl (Nat.le_of_ble_eq_true rfl) rfl dX6_remembers_45 (fun H locs hP hD hS => ?_)
        refine lv_iconst (v := 0) (pc := 48) hx hb dX6_remembers_48 rfl ?_
        refine lv_istore_n (lv' := [(1, .int 0), (0, .ref (a 0))]) (pc := 49) hx hb dX6_remembers_49 rfl hl (by decide) rfl (fun ls hl => ?_)
        have loop19 : ∀ (n17 i16 : Nat), i16 + n17 = 68 → ∀ (H : Heap) (locs : List Loc) (ls : Array Slot), va_P E.1 vwCl [(a 0, .inr (6, [.ref (a 1), .ref (a 2), .ref (a 3), .int x15, .ref (a 4), .ref (a 5), .int (M.1 1), .int (M.1 2), .int (M.1 3), .ref (a 6), .ref (a 7), .int (M.1 4), .int (M.1 5), .int (M.1 6), .long M.2.1])), (a 1, .inl (eJ E, 68, .inr (.inl M.2.2.1))), (a 2, .inl (eJ E, 68, .inr (.inl M.2.2.2.1))), (a 3, .inl (eJ E, 340, .inr (.inl (lpRow M.2.2.2.1 (lpShift M.2.2.2.2.1 272) x15.toNatClampNeg i16)))), (a 4, .inl (eI E, 3, .inl M.2.2.2.2.2.1)), (a 5, .inl (eI E, 120, .inl M.2.2.2.2.2.2.1)), (a 6, .inl (eI E, 60, .inl M.2.2.2.2.2.2.2.1)), (a 7, .inl (eI E, 120, .inl M.2.2.2.2.2.2.2.2))] H → va_D A [(a 0, .inr (6, [.ref (a 1), .ref (a 2), .ref (a 3), .int x15, .ref (a 4), .ref (a 5), .int (M.1 1), .int (M.1 2), .int (M.1 3), .ref (a 6), .ref (a 7), .int (M.1 4), .int (M.1 5), .int (M.1 6), .long M.2.1])), (a 1, .inl (eJ E, 68, .inr (.inl M.2.2.1))), (a 2, .inl (eJ E, 68, .inr (.inl M.2.2.2.1))), (a 3, .inl (eJ E, 340, .inr (.inl (lpRow M.2.2.2.1 (lpShift M.2.2.2.2.1 272) x15.toNatClampNeg i16)))), (a 4, .inl (eI E, 3, .inl M.2.2.2.2.2.1)), (a 5, .inl (eI E, 120, .inl M.2.2.2.2.2.2.1)), (a 6, .inl (eI E, 60, .inl M.2.2.2.2.2.2.2.1)), (a 7, .inl (eI E, 120, .inl M.2.2.2.2.2.2.2.2))] → va_S A s.heap H locs → lv_has ls 2 [(0, .ref (a 0)), (1, .int (nI i16))] → W p l e rX6_remembers s m args below meth c H locs 0 0 Q (F0 m 50 ls []) := by
          intro n17
          induction n17 with
          | zero =>
            intro i16 hi H locs ls hP hD hS hl
            obtain rfl : i16 = 68 := by omega
            refine lv_iload_n (pc := 50) hx hb dX6_remembers_50 rfl (lv_at hl 1 rfl) ?_
            refine lv_bipush (v := 68) (pc := 51) hx hb dX6_remembers_51 rfl ?_
            refine lv_icmp_ge (tgt := 82) (pc := 53) hx hb dX6_remembers_53 (by decide) (fun c_20 => ?_) (fun c_20 => ?_)
            rotate_left
            · exact absurd (nI_le (a := 68) (b := 68) (by decide) (by decide)) c_20
            refine lv_aload_n (pc := 82) hx hb dX6_remembers_82 rfl (lv_at hl 0 rfl) ?_
            refine lv_dup (pc := 83) hx hb dX6_remembers_83 rfl ?_
            refine g_get (v := .int x15) (pc := 84) hx hb hts ii_X6_remembers_X6 hown hK.1 hP 0 rfl rfl 3 (by decide) ⟨rfl, rfl, rfl⟩ mm_X6_remembers_1 rfl dX6_remembers_84 ?_
            refine lv_iconst (v := 1) (pc := 87) hx hb dX6_remembers_87 rfl ?_
            refine lv_iadd (pc := 88) hx hb dX6_remembers_88 ?_
            refine g_topi (fun x21 ex21 => ?_)
            refine g_put (w1 := [(a 0, .inr (6, [.ref (a 1), .ref (a 2), .ref (a 3), .int x21, .ref (a 4), .ref (a 5), .int (M.1 1), .int (M.1 2), .int (M.1 3), .ref (a 6), .ref (a 7), .int (M.1 4), .int (M.1 5), .int (M.1 6), .long M.2.1])), (a 1, .inl (eJ E, 68, .inr (.inl M.2.2.1))), (a 2, .inl (eJ E, 68, .inr (.inl M.2.2.2.1))), (a 3, .inl (eJ E, 340, .inr (.inl (lpRow M.2.2.2.1 (lpShift M.2.2.2.2.1 272) x15.toNatClampNeg 68)))), (a 4, .inl (eI E, 3, .inl M.2.2.2.2.2.1)), (a 5, .inl (eI E, 120, .inl M.2.2.2.2.2.2.1)), (a 6, .inl (eI E, 60, .inl M.2.2.2.2.2.2.2.1)), (a 7, .inl (eI E, 120, .inl M.2.2.2.2.2.2.2.2))]) (pc := 89) hx hb hts ii_X6_remembers_X6 tyX6 tyX6_ok nmX6 hown hK.1 hP hD hS 0 rfl rfl 3 (by decide) ⟨rfl, rfl, rfl⟩ mm_X6_remembers_1 rfl rfl rfl rfl (Nat.le_of_ble_eq_true rfl) rfl dX6_remembers_89 (fun H locs hP hD hS => ?_)
            subst ex21
            subst ex15
            have hfn : fX6_remembers M = _ := if_pos c_1
            rw [hfn] at hQ
            exact hQ _ _ _ _ hP hD hS dX6_remembers_92
          | succ n17 ih18 =>
            intro i16 hi H locs ls hP hD hS hl
            have hlt : i16 < 68 := by omega
            refine lv_iload_n (pc := 50) hx hb dX6_remembers_50 rfl (lv_at hl 1 rfl) ?_
            refine lv_bipush (v := 68) (pc := 51) hx hb dX6_remembers_51 rfl ?_
            refine lv_icmp_ge (tgt := 82) (pc := 53) hx hb dX6_remembers_53 (by decide) (fun c_22 => ?_) (fun c_22 => ?_)
            · exact absurd c_22 (nI_ge (a := i16) (b := 68) (by omega) (by decide))
            refine lv_aload_n (pc := 56) hx hb dX6_remembers_56 rfl (lv_at hl 0 rfl) ?_
            refine g_get (v := .ref (a 3)) (pc := 57) hx hb hts ii_X6_remembers_X6 hown hK.1 hP 0 rfl rfl 2 (by decide) ⟨rfl, rfl, rfl⟩ mm_X6_remembers_2 rfl dX6_remembers_57 ?_
            refine lv_bipush (v := 68) (pc := 60) hx hb dX6_remembers_60 rfl ?_
            refine lv_aload_n (pc := 62) hx hb dX6_remembers_62 rfl (lv_at hl 0 rfl) ?_
            refine g_get (v := .int x15) (pc := 63) hx hb hts ii_X6_remembers_X6 hown hK.1 hP 0 rfl rfl 3 (by decide) ⟨rfl, rfl, rfl⟩ mm_X6_remembers_1 rfl dX6_remembers_63 ?_
            refine lv_imul (pc := 66) hx hb dX6_remembers_66 ?_
            refine lv_iload_n (pc := 67) hx hb dX6_remembers_67 rfl (lv_at hl 1 rfl) ?_
            refine lv_iadd (pc := 68) hx hb dX6_remembers_68 ?_
            refine lv_aload_n (pc := 69) hx hb dX6_remembers_69 rfl (lv_at hl 0 rfl) ?_
            refine g_get (v := .ref (a 2)) (pc := 70) hx hb hts ii_X6_remembers_X6 hown hK.1 hP 0 rfl rfl 1 (by decide) ⟨rfl, rfl, rfl⟩ mm_X6_remembers_3 rfl dX6_remembers_70 ?_
            refine lv_iload_n (pc := 73) hx hb dX6_remembers_73 rfl (lv_at hl 1 rfl) ?_
            refine g_lald (j := i16) (v := (M.2.2.2.1 i16)) (pc := 74) hx hb hK.1 hP 2 1 rfl rfl (vp_in_nI (by omega) (by decide)) (nI_clamp (by omega)) rfl dX6_remembers_74 ?_
            refine g_topl (fun x23 ex23 => ?_)
            refine g_last (j := 68 * x15.toNatClampNeg + i16) (w1 := [(a 0, .inr (6, [.ref (a 1), .ref (a 2), .ref (a 3), .int x15, .ref (a 4), .ref (a 5), .int (M.1 1), .int (M.1 2), .int (M.1 3), .ref (a 6), .ref (a 7), .int (M.1 4), .int (M.1 5), .int (M.1 6), .long M.2.1])), (a 1, .inl (eJ E, 68, .inr (.inl M.2.2.1))), (a 2, .inl (eJ E, 68, .inr (.inl M.2.2.2.1))), (a 3, .inl (eJ E, 340, .inr (.inl (vp_updL (lpRow M.2.2.2.1 (lpShift M.2.2.2.2.1 272) x15.toNatClampNeg i16) (68 * x15.toNatClampNeg + i16) x23)))), (a 4, .inl (eI E, 3, .inl M.2.2.2.2.2.1)), (a 5, .inl (eI E, 120, .inl M.2.2.2.2.2.2.1)), (a 6, .inl (eI E, 60, .inl M.2.2.2.2.2.2.2.1)), (a 7, .inl (eI E, 120, .inl M.2.2.2.2.2.2.2.2))]) (pc := 75) hx hb hK.1 hP hD hS 3 1 rfl rfl (ix_row (st_5 c_1 ex15) hlt).1 (ix_row (st_5 c_1 ex15) hlt).2 rfl dX6_remembers_75 (fun H locs hP hD hS => ?_)
            refine lv_iinc (v := nI (i16 + 1)) (lv' := [(1, .int (nI (i16 + 1))), (0, .ref (a 0))]) (pc := 76) hx hb dX6_remembers_76 hl (k := 1) rfl (nI_1 i16) (by decide) rfl (fun ls hl => ?_)
            refine lv_goto (tgt := 50) (pc := 79) hx hb dX6_remembers_79 (by decide) ?_
            subst ex23
            exact ih18 (i16 + 1) (by omega) _ _ _ hP hD hS (lv_sub hl [1, 0] rfl)
        exact loop19 68 0 (by decide) _ _ _ hP hD hS (lv_sub hl [1, 0] rfl)
      | succ n11 ih12 =>
        intro i10 hi H locs ls hP hD hS hl
        have hlt : i10 < 272 := by omega
        refine lv_iload_n (pc := 10) hx hb dX6_remembers_10 rfl (lv_at hl 1 rfl) ?_
        refine lv_sipush (v := 272) (pc := 11) hx hb dX6_remembers_11 rfl ?_
        refine lv_icmp_ge (tgt := 38) (pc := 14) hx hb dX6_remembers_14 (by decide) (fun c_24 => ?_) (fun c_24 => ?_)
        · exact absurd c_24 (nI_ge (a := i10) (b := 272) (by omega) (by decide))
        refine lv_aload_n (pc := 17) hx hb dX6_remembers_17 rfl (lv_at hl 0 rfl) ?_
        refine g_get (v := .ref (a 3)) (pc := 18) hx hb hts ii_X6_remembers_X6 hown hK.1 hP 0 rfl rfl 2 (by decide) ⟨rfl, rfl, rfl⟩ mm_X6_remembers_2 rfl dX6_remembers_18 ?_
        refine lv_iload_n (pc := 21) hx hb dX6_remembers_21 rfl (lv_at hl 1 rfl) ?_
        refine lv_aload_n (pc := 22) hx hb dX6_remembers_22 rfl (lv_at hl 0 rfl) ?_
        refine g_get (v := .ref (a 3)) (pc := 23) hx hb hts ii_X6_remembers_X6 hown hK.1 hP 0 rfl rfl 2 (by decide) ⟨rfl, rfl, rfl⟩ mm_X6_remembers_2 rfl dX6_remembers_23 ?_
        refine lv_iload_n (pc := 26) hx hb dX6_remembers_26 rfl (lv_at hl 1 rfl) ?_
        refine lv_bipush (v := 68) (pc := 27) hx hb dX6_remembers_27 rfl ?_
        refine lv_iadd (pc := 29) hx hb dX6_remembers_29 ?_
        refine g_lald (j := i10 + 68) (v := ((lpShift M.2.2.2.2.1 i10) (i10 + 68))) (pc := 30) hx hb hK.1 hP 3 1 rfl rfl (ix_off (a := i10) (i := 68) (by omega) (by decide)) (cl_off (a := i10) (i := 68) (by omega)) rfl dX6_remembers_30 ?_
        refine g_topl (fun x25 ex25 => ?_)
        refine g_last (j := i10) (w1 := [(a 0, .inr (6, [.ref (a 1), .ref (a 2), .ref (a 3), .int (M.1 0), .ref (a 4), .ref (a 5), .int (M.1 1), .int (M.1 2), .int (M.1 3), .ref (a 6), .ref (a 7), .int (M.1 4), .int (M.1 5), .int (M.1 6), .long M.2.1])), (a 1, .inl (eJ E, 68, .inr (.inl M.2.2.1))), (a 2, .inl (eJ E, 68, .inr (.inl M.2.2.2.1))), (a 3, .inl (eJ E, 340, .inr (.inl (vp_updL (lpShift M.2.2.2.2.1 i10) i10 x25)))), (a 4, .inl (eI E, 3, .inl M.2.2.2.2.2.1)), (a 5, .inl (eI E, 120, .inl M.2.2.2.2.2.2.1)), (a 6, .inl (eI E, 60, .inl M.2.2.2.2.2.2.2.1)), (a 7, .inl (eI E, 120, .inl M.2.2.2.2.2.2.2.2))]) (pc := 31) hx hb hK.1 hP hD hS 3 1 rfl rfl (vp_in_nI (by omega) (by decide)) (nI_clamp (by omega)) rfl dX6_remembers_31 (fun H locs hP hD hS => ?_)
        refine lv_iinc (v := nI (i10 + 1)) (lv' := [(1, .int (nI (i10 + 1))), (0, .ref (a 0))]) (pc := 32) hx hb dX6_remembers_32 hl (k := 1) rfl (nI_1 i10) (by decide) rfl (fun ls hl => ?_)
        refine lv_goto (tgt := 10) (pc := 35) hx hb dX6_remembers_35 (by decide) ?_
        subst ex25
        exact ih12 (i10 + 1) (by omega) _ _ _ hP hD hS (lv_sub hl [1, 0] rfl)
    exact loop13 272 0 (by decide) _ _ _ hP hD hS (lv_sub hl [1, 0] rfl)

theorem hv_no : vp_in ((-10000002) - (-10000003)) 3 := g_in (by decide +kernel)
theorem hv_bad : vp_in ((-10000002) - (-10000002)) 3 := g_in (by decide +kernel)
theorem hv_full : vp_in ((-10000002) - (-10000004)) 3 := g_in (by decide +kernel)
def fX6_back (M : Mdl) : Int32 × (Mdl) :=
  if (M.1 0) = 0 then
    let r10 : Int32 × (Mdl) := fX6_refuses M (-10000003)
    r10
  else
    let x2 : Int32 := (M.1 0) - 1
    (x2, ((upd M.1 0 x2), M.2.1, (lpBk M.2.2.2.2.1 M.2.2.1 x2.toNatClampNeg 68), M.2.2.2.1, M.2.2.2.2.1, M.2.2.2.2.2.1, M.2.2.2.2.2.2.1, M.2.2.2.2.2.2.2.1, M.2.2.2.2.2.2.2.2))
abbrev rX6_back : Room := { frames := 1, cells := 0, slots := 0, locals := 21 }
theorem mm_X6_back_1 : Cond.fieldLink RX6 45 "GaugeBoundsModel" "states" "I" ∈ wsX6_back := List.mem_of_getElem? (i := 1) rfl
theorem mm_X6_back_3 : Cond.fieldLink RX6 7 "GaugeBoundsModel" "now" "[J" ∈ wsX6_back := List.mem_of_getElem? (i := 3) rfl
theorem mm_X6_back_4 : Cond.fieldLink RX6 16 "GaugeBoundsModel" "past" "[J" ∈ wsX6_back := List.mem_of_getElem? (i := 4) rfl
theorem mm_X6_back_2 : Cond.constant RX6 49 (-10000003) ∈ wsX6_back := List.mem_of_getElem? (i := 2) rfl
theorem ii_X6_back_X6 : ∀ w ∈ wsX60, w ∈ wsX6_back := fun _ h => List.mem_cons_of_mem _ (List.mem_append_right _ (h))
theorem qvX6_back : yX6_back.cls = RX6 ∧ yX6_back.cls ≠ "java/lang/invoke/MethodHandle" ∧ yX6_back.cls ≠ "java/lang/invoke/VarHandle" ∧ (parseMethodDescriptor yX6_back.desc).map (fun d => d.parameters.length) = some 0 := by decide +kernel
set_option maxHeartbeats 4000000 in
set_option maxRecDepth 100000 in
theorem kX6_back (l : Launch) (E : gEnv) (a : Nat → Nat) (M : Mdl) (hn : 0 ≤ (M.1 0).toInt ∧ (M.1 0).toInt ≤ 5) : gMi l E yX6_back wsX6_back rX6_back [.ref (a 0)] (wM E a M) (fX6_back M).1 (wM E a ((fX6_back M).2)) := by
  refine gMi_of (cc := cX6_back) (maxL := 2) (ret := (some .int)) (by decide) rfl rfl (Nat.le_of_ble_eq_true rfl) ?_
  intro p e s m args below meth c A Q ls hB hQ
  obtain ⟨hx, hb, hml, hown, hts, hK, hP, hD, hA, hS, hl⟩ := hB
  have hown : s.vm.findClass RX6 = some m.cls := hown
  have hP : va_P E.1 vwCl [(a 0, .inr (6, [.ref (a 1), .ref (a 2), .ref (a 3), .int (M.1 0), .ref (a 4), .ref (a 5), .int (M.1 1), .int (M.1 2), .int (M.1 3), .ref (a 6), .ref (a 7), .int (M.1 4), .int (M.1 5), .int (M.1 6), .long M.2.1])), (a 1, .inl (eJ E, 68, .inr (.inl M.2.2.1))), (a 2, .inl (eJ E, 68, .inr (.inl M.2.2.2.1))), (a 3, .inl (eJ E, 340, .inr (.inl M.2.2.2.2.1))), (a 4, .inl (eI E, 3, .inl M.2.2.2.2.2.1)), (a 5, .inl (eI E, 120, .inl M.2.2.2.2.2.2.1)), (a 6, .inl (eI E, 60, .inl M.2.2.2.2.2.2.2.1)), (a 7, .inl (eI E, 120, .inl M.2.2.2.2.2.2.2.2))] s.heap := hP
  have hD : va_D A [(a 0, .inr (6, [.ref (a 1), .ref (a 2), .ref (a 3), .int (M.1 0), .ref (a 4), .ref (a 5), .int (M.1 1), .int (M.1 2), .int (M.1 3), .ref (a 6), .ref (a 7), .int (M.1 4), .int (M.1 5), .int (M.1 6), .long M.2.1])), (a 1, .inl (eJ E, 68, .inr (.inl M.2.2.1))), (a 2, .inl (eJ E, 68, .inr (.inl M.2.2.2.1))), (a 3, .inl (eJ E, 340, .inr (.inl M.2.2.2.2.1))), (a 4, .inl (eI E, 3, .inl M.2.2.2.2.2.1)), (a 5, .inl (eI E, 120, .inl M.2.2.2.2.2.2.1)), (a 6, .inl (eI E, 60, .inl M.2.2.2.2.2.2.2.1)), (a 7, .inl (eI E, 120, .inl M.2.2.2.2.2.2.2.2))] := hD
  have hl : lv_has ls 2 [(0, .ref (a 0))] := hl
  refine lv_aload_n (pc := 0) hx hb dX6_back_0 rfl (lv_at hl 0 rfl) ?_
  refine g_get (v := .int (M.1 0)) (pc := 1) hx hb hts ii_X6_back_X6 hown hK.1 hP 0 rfl rfl 3 (by decide) ⟨rfl, rfl, rfl⟩ mm_X6_back_1 rfl dX6_back_1 ?_
  refine lv_if_ne (tgt := 14) (pc := 4) hx hb dX6_back_4 (by decide) (fun c_1 => ?_) (fun c_1 => ?_)
  · refine lv_aload_n (pc := 14) hx hb dX6_back_14 rfl (lv_at hl 0 rfl) ?_
    refine lv_dup (pc := 15) hx hb dX6_back_15 rfl ?_
    refine g_get (v := .int (M.1 0)) (pc := 16) hx hb hts ii_X6_back_X6 hown hK.1 hP 0 rfl rfl 3 (by decide) ⟨rfl, rfl, rfl⟩ mm_X6_back_1 rfl dX6_back_16 ?_
    refine lv_iconst (v := 1) (pc := 19) hx hb dX6_back_19 rfl ?_
    refine lv_isub (pc := 20) hx hb dX6_back_20 ?_
    refine g_topi (fun x2 ex2 => ?_)
    refine g_put (w1 := [(a 0, .inr (6, [.ref (a 1), .ref (a 2), .ref (a 3), .int x2, .ref (a 4), .ref (a 5), .int (M.1 1), .int (M.1 2), .int (M.1 3), .ref (a 6), .ref (a 7), .int (M.1 4), .int (M.1 5), .int (M.1 6), .long M.2.1])), (a 1, .inl (eJ E, 68, .inr (.inl M.2.2.1))), (a 2, .inl (eJ E, 68, .inr (.inl M.2.2.2.1))), (a 3, .inl (eJ E, 340, .inr (.inl M.2.2.2.2.1))), (a 4, .inl (eI E, 3, .inl M.2.2.2.2.2.1)), (a 5, .inl (eI E, 120, .inl M.2.2.2.2.2.2.1)), (a 6, .inl (eI E, 60, .inl M.2.2.2.2.2.2.2.1)), (a 7, .inl (eI E, 120, .inl M.2.2.2.2.2.2.2.2))]) (pc := 21) hx hb hts ii_X6_back_X6 tyX6 tyX6_ok nmX6 hown hK.1 hP hD hS 0 rfl rfl 3 (by decide) ⟨rfl, rfl, rfl⟩ mm_X6_back_1 rfl rfl rfl rfl (Nat.le_of_ble_eq_true rfl) rfl dX6_back_21 (fun H locs hP hD hS => ?_)
    refine lv_iconst (v := 0) (pc := 24) hx hb dX6_back_24 rfl ?_
    refine lv_istore_n (lv' := [(1, .int 0), (0, .ref (a 0))]) (pc := 25) hx hb dX6_back_25 rfl hl (by decide) rfl (fun ls hl => ?_)
    have loop6 : ∀ (n4 i3 : Nat), i3 + n4 = 68 → ∀ (H : Heap) (locs : List Loc) (ls : Array Slot), va_P E.1 vwCl [(a 0, .inr (6, [.ref (a 1), .ref (a 2), .ref (a 3), .int x2, .ref (a 4), .ref (a 5), .int (M.1 1), .int (M.1 2), .int (M.1 3), .ref (a 6), .ref (a 7), .int (M.1 4), .int (M.1 5), .int (M.1 6), .long M.2.1])), (a 1, .inl (eJ E, 68, .inr (.inl (lpBk M.2.2.2.2.1 M.2.2.1 x2.toNatClampNeg i3)))), (a 2, .inl (eJ E, 68, .inr (.inl M.2.2.2.1))), (a 3, .inl (eJ E, 340, .inr (.inl M.2.2.2.2.1))), (a 4, .inl (eI E, 3, .inl M.2.2.2.2.2.1)), (a 5, .inl (eI E, 120, .inl M.2.2.2.2.2.2.1)), (a 6, .inl (eI E, 60, .inl M.2.2.2.2.2.2.2.1)), (a 7, .inl (eI E, 120, .inl M.2.2.2.2.2.2.2.2))] H → va_D A [(a 0, .inr (6, [.ref (a 1), .ref (a 2), .ref (a 3), .int x2, .ref (a 4), .ref (a 5), .int (M.1 1), .int (M.1 2), .int (M.1 3), .ref (a 6), .ref (a 7), .int (M.1 4), .int (M.1 5), .int (M.1 6), .long M.2.1])), (a 1, .inl (eJ E, 68, .inr (.inl (lpBk M.2.2.2.2.1 M.2.2.1 x2.toNatClampNeg i3)))), (a 2, .inl (eJ E, 68, .inr (.inl M.2.2.2.1))), (a 3, .inl (eJ E, 340, .inr (.inl M.2.2.2.2.1))), (a 4, .inl (eI E, 3, .inl M.2.2.2.2.2.1)), (a 5, .inl (eI E, 120, .inl M.2.2.2.2.2.2.1)), (a 6, .inl (eI E, 60, .inl M.2.2.2.2.2.2.2.1)), (a 7, .inl (eI E, 120, .inl M.2.2.2.2.2.2.2.2))] → va_S A s.heap H locs → lv_has ls 2 [(0, .ref (a 0)), (1, .int (nI i3))] → W p l e rX6_back s m args below meth c H locs 0 0 Q (F0 m 26 ls []) := by
      intro n4
      induction n4 with
      | zero =>
        intro i3 hi H locs ls hP hD hS hl
        obtain rfl : i3 = 68 := by omega
        refine lv_iload_n (pc := 26) hx hb dX6_back_26 rfl (lv_at hl 1 rfl) ?_
        refine lv_bipush (v := 68) (pc := 27) hx hb dX6_back_27 rfl ?_
        refine lv_icmp_ge (tgt := 58) (pc := 29) hx hb dX6_back_29 (by decide) (fun c_7 => ?_) (fun c_7 => ?_)
        rotate_left
        · exact absurd (nI_le (a := 68) (b := 68) (by decide) (by decide)) c_7
        refine lv_aload_n (pc := 58) hx hb dX6_back_58 rfl (lv_at hl 0 rfl) ?_
        refine g_get (v := .int x2) (pc := 59) hx hb hts ii_X6_back_X6 hown hK.1 hP 0 rfl rfl 3 (by decide) ⟨rfl, rfl, rfl⟩ mm_X6_back_1 rfl dX6_back_59 ?_
        subst ex2
        have hfn : fX6_back M = _ := if_neg c_1
        rw [hfn] at hQ
        exact hQ _ _ _ _ _ rfl hP hD hS dX6_back_62
      | succ n4 ih5 =>
        intro i3 hi H locs ls hP hD hS hl
        have hlt : i3 < 68 := by omega
        refine lv_iload_n (pc := 26) hx hb dX6_back_26 rfl (lv_at hl 1 rfl) ?_
        refine lv_bipush (v := 68) (pc := 27) hx hb dX6_back_27 rfl ?_
        refine lv_icmp_ge (tgt := 58) (pc := 29) hx hb dX6_back_29 (by decide) (fun c_8 => ?_) (fun c_8 => ?_)
        · exact absurd c_8 (nI_ge (a := i3) (b := 68) (by omega) (by decide))
        refine lv_aload_n (pc := 32) hx hb dX6_back_32 rfl (lv_at hl 0 rfl) ?_
        refine g_get (v := .ref (a 1)) (pc := 33) hx hb hts ii_X6_back_X6 hown hK.1 hP 0 rfl rfl 0 (by decide) ⟨rfl, rfl, rfl⟩ mm_X6_back_3 rfl dX6_back_33 ?_
        refine lv_iload_n (pc := 36) hx hb dX6_back_36 rfl (lv_at hl 1 rfl) ?_
        refine lv_aload_n (pc := 37) hx hb dX6_back_37 rfl (lv_at hl 0 rfl) ?_
        refine g_get (v := .ref (a 3)) (pc := 38) hx hb hts ii_X6_back_X6 hown hK.1 hP 0 rfl rfl 2 (by decide) ⟨rfl, rfl, rfl⟩ mm_X6_back_4 rfl dX6_back_38 ?_
        refine lv_bipush (v := 68) (pc := 41) hx hb dX6_back_41 rfl ?_
        refine lv_aload_n (pc := 43) hx hb dX6_back_43 rfl (lv_at hl 0 rfl) ?_
        refine g_get (v := .int x2) (pc := 44) hx hb hts ii_X6_back_X6 hown hK.1 hP 0 rfl rfl 3 (by decide) ⟨rfl, rfl, rfl⟩ mm_X6_back_1 rfl dX6_back_44 ?_
        refine lv_imul (pc := 47) hx hb dX6_back_47 ?_
        refine lv_iload_n (pc := 48) hx hb dX6_back_48 rfl (lv_at hl 1 rfl) ?_
        refine lv_iadd (pc := 49) hx hb dX6_back_49 ?_
        refine g_lald (j := 68 * x2.toNatClampNeg + i3) (v := (M.2.2.2.2.1 (68 * x2.toNatClampNeg + i3))) (pc := 50) hx hb hK.1 hP 3 1 rfl rfl (ix_row (st_m hn c_1 ex2) hlt).1 (ix_row (st_m hn c_1 ex2) hlt).2 rfl dX6_back_50 ?_
        refine g_topl (fun x9 ex9 => ?_)
        refine g_last (j := i3) (w1 := [(a 0, .inr (6, [.ref (a 1), .ref (a 2), .ref (a 3), .int x2, .ref (a 4), .ref (a 5), .int (M.1 1), .int (M.1 2), .int (M.1 3), .ref (a 6), .ref (a 7), .int (M.1 4), .int (M.1 5), .int (M.1 6), .long M.2.1])), (a 1, .inl (eJ E, 68, .inr (.inl (vp_updL (lpBk M.2.2.2.2.1 M.2.2.1 x2.toNatClampNeg i3) i3 x9)))), (a 2, .inl (eJ E, 68, .inr (.inl M.2.2.2.1))), (a 3, .inl (eJ E, 340, .inr (.inl M.2.2.2.2.1))), (a 4, .inl (eI E, 3, .inl M.2.2.2.2.2.1)), (a 5, .inl (eI E, 120, .inl M.2.2.2.2.2.2.1)), (a 6, .inl (eI E, 60, .inl M.2.2.2.2.2.2.2.1)), (a 7, .inl (eI E, 120, .inl M.2.2.2.2.2.2.2.2))]) (pc := 51) hx hb hK.1 hP hD hS 1 1 rfl rfl (vp_in_nI (by omega) (by decide)) (nI_clamp (by omega)) rfl dX6_back_51 (fun H locs hP hD hS => ?_)
        refine lv_iinc (v := nI (i3 + 1)) (lv' := [(1, .int (nI (i3 + 1))), (0, .ref (a 0))]) (pc := 52) hx hb dX6_back_52 hl (k := 1) rfl (nI_1 i3) (by decide) rfl (fun ls hl => ?_)
        refine lv_goto (tgt := 26) (pc := 55) hx hb dX6_back_55 (by decide) ?_
        subst ex9
        exact ih5 (i3 + 1) (by omega) _ _ _ hP hD hS (lv_sub hl [1, 0] rfl)
    exact loop6 68 0 (by decide) _ _ _ hP hD hS (lv_sub hl [1, 0] rfl)
  · refine lv_aload_n (pc := 7) hx hb dX6_back_7 rfl (lv_at hl 0 rfl) ?_
    refine lv_ldc (v := (-10000003)) (pc := 8) hx hb hown (hts _ mm_X6_back_2) dX6_back_8 ?_
    obtain ⟨r10, er10⟩ : ∃ z : Int32 × (Mdl), fX6_refuses M (-10000003) = z := ⟨_, rfl⟩
    have hr10 := kX6_refuses l E a M (-10000003) hv_no
    rw [er10] at hr10
    refine gcVi (pc := 10) (w1 := [(a 0, .inr (6, [.ref (a 1), .ref (a 2), .ref (a 3), .int (r10.2.1 0), .ref (a 4), .ref (a 5), .int (r10.2.1 1), .int (r10.2.1 2), .int (r10.2.1 3), .ref (a 6), .ref (a 7), .int (r10.2.1 4), .int (r10.2.1 5), .int (r10.2.1 6), .long r10.2.2.1])), (a 1, .inl (eJ E, 68, .inr (.inl r10.2.2.2.1))), (a 2, .inl (eJ E, 68, .inr (.inl r10.2.2.2.2.1))), (a 3, .inl (eJ E, 340, .inr (.inl r10.2.2.2.2.2.1))), (a 4, .inl (eI E, 3, .inl r10.2.2.2.2.2.2.1)), (a 5, .inl (eI E, 120, .inl r10.2.2.2.2.2.2.2.1)), (a 6, .inl (eI E, 60, .inl r10.2.2.2.2.2.2.2.2.1)), (a 7, .inl (eI E, 120, .inl r10.2.2.2.2.2.2.2.2.2))]) (pre := []) (post := []) (As := [.int (-10000003)]) (rest := []) (q0 := 0) ⟨hx, hb, hml, hown, hts⟩ hr10 (cwV 1 hts gX6_back_X6_refuses rfl rfl rfl qvX6_refuses ⟨Nat.le_of_ble_eq_true rfl, Nat.le_of_ble_eq_true rfl⟩) hK hP hD hS hA rfl rfl rfl rfl rfl hl.1 rfl (Nat.le_of_ble_eq_true rfl) dX6_back_10 ⟨Nat.zero_le _, Nat.zero_le _⟩ (fun H locs hP hD hS => ?_)
    subst er10
    have hfn : fX6_back M = _ := if_pos c_1
    rw [hfn] at hQ
    exact hQ _ _ _ _ _ rfl hP hD hS dX6_back_13

def fX6_finished (M : Mdl) (v : Int32) : Int32 × (Mdl) :=
  if (-10000002) < v then
    let r2 : Mdl := fX6_remembers M
    (v, r2)
  else
    let r3 : Int32 × (Mdl) := fX6_refuses M v
    r3
abbrev rX6_finished : Room := { frames := 1, cells := 0, slots := 0, locals := 21 }
theorem mm_X6_finished_1 : Cond.constant RX6 44 (-10000002) ∈ wsX6_finished := List.mem_of_getElem? (i := 1) rfl
theorem qvX6_finished : yX6_finished.cls = RX6 ∧ yX6_finished.cls ≠ "java/lang/invoke/MethodHandle" ∧ yX6_finished.cls ≠ "java/lang/invoke/VarHandle" ∧ (parseMethodDescriptor yX6_finished.desc).map (fun d => d.parameters.length) = some 1 := by decide +kernel
set_option maxHeartbeats 4000000 in
set_option maxRecDepth 100000 in
theorem kX6_finished (l : Launch) (E : gEnv) (a : Nat → Nat) (M : Mdl) (v : Int32) (hn : 0 ≤ (M.1 0).toInt ∧ (M.1 0).toInt ≤ 5) (hv : ¬ (-10000002) < v → vp_in ((-10000002) - v) 3) : gMi l E yX6_finished wsX6_finished rX6_finished [.ref (a 0), .int v] (wM E a M) (fX6_finished M v).1 (wM E a ((fX6_finished M v).2)) := by
  refine gMi_of (cc := cX6_finished) (maxL := 2) (ret := (some .int)) (by decide) rfl rfl (Nat.le_of_ble_eq_true rfl) ?_
  intro p e s m args below meth c A Q ls hB hQ
  obtain ⟨hx, hb, hml, hown, hts, hK, hP, hD, hA, hS, hl⟩ := hB
  have hown : s.vm.findClass RX6 = some m.cls := hown
  have hP : va_P E.1 vwCl [(a 0, .inr (6, [.ref (a 1), .ref (a 2), .ref (a 3), .int (M.1 0), .ref (a 4), .ref (a 5), .int (M.1 1), .int (M.1 2), .int (M.1 3), .ref (a 6), .ref (a 7), .int (M.1 4), .int (M.1 5), .int (M.1 6), .long M.2.1])), (a 1, .inl (eJ E, 68, .inr (.inl M.2.2.1))), (a 2, .inl (eJ E, 68, .inr (.inl M.2.2.2.1))), (a 3, .inl (eJ E, 340, .inr (.inl M.2.2.2.2.1))), (a 4, .inl (eI E, 3, .inl M.2.2.2.2.2.1)), (a 5, .inl (eI E, 120, .inl M.2.2.2.2.2.2.1)), (a 6, .inl (eI E, 60, .inl M.2.2.2.2.2.2.2.1)), (a 7, .inl (eI E, 120, .inl M.2.2.2.2.2.2.2.2))] s.heap := hP
  have hD : va_D A [(a 0, .inr (6, [.ref (a 1), .ref (a 2), .ref (a 3), .int (M.1 0), .ref (a 4), .ref (a 5), .int (M.1 1), .int (M.1 2), .int (M.1 3), .ref (a 6), .ref (a 7), .int (M.1 4), .int (M.1 5), .int (M.1 6), .long M.2.1])), (a 1, .inl (eJ E, 68, .inr (.inl M.2.2.1))), (a 2, .inl (eJ E, 68, .inr (.inl M.2.2.2.1))), (a 3, .inl (eJ E, 340, .inr (.inl M.2.2.2.2.1))), (a 4, .inl (eI E, 3, .inl M.2.2.2.2.2.1)), (a 5, .inl (eI E, 120, .inl M.2.2.2.2.2.2.1)), (a 6, .inl (eI E, 60, .inl M.2.2.2.2.2.2.2.1)), (a 7, .inl (eI E, 120, .inl M.2.2.2.2.2.2.2.2))] := hD
  have hl : lv_has ls 2 [(0, .ref (a 0)), (1, .int v)] := hl
  refine lv_iload_n (pc := 0) hx hb dX6_finished_0 rfl (lv_at hl 1 rfl) ?_
  refine lv_ldc (v := (-10000002)) (pc := 1) hx hb hown (hts _ mm_X6_finished_1) dX6_finished_1 ?_
  refine lv_icmp_gt (tgt := 12) (pc := 3) hx hb dX6_finished_3 (by decide) (fun c_1 => ?_) (fun c_1 => ?_)
  · refine lv_aload_n (pc := 12) hx hb dX6_finished_12 rfl (lv_at hl 0 rfl) ?_
    obtain ⟨r2, er2⟩ : ∃ z : Mdl, fX6_remembers M = z := ⟨_, rfl⟩
    have hr2 := kX6_remembers l E a M hn
    rw [er2] at hr2
    refine gcVv (pc := 13) (w1 := [(a 0, .inr (6, [.ref (a 1), .ref (a 2), .ref (a 3), .int (r2.1 0), .ref (a 4), .ref (a 5), .int (r2.1 1), .int (r2.1 2), .int (r2.1 3), .ref (a 6), .ref (a 7), .int (r2.1 4), .int (r2.1 5), .int (r2.1 6), .long r2.2.1])), (a 1, .inl (eJ E, 68, .inr (.inl r2.2.2.1))), (a 2, .inl (eJ E, 68, .inr (.inl r2.2.2.2.1))), (a 3, .inl (eJ E, 340, .inr (.inl r2.2.2.2.2.1))), (a 4, .inl (eI E, 3, .inl r2.2.2.2.2.2.1)), (a 5, .inl (eI E, 120, .inl r2.2.2.2.2.2.2.1)), (a 6, .inl (eI E, 60, .inl r2.2.2.2.2.2.2.2.1)), (a 7, .inl (eI E, 120, .inl r2.2.2.2.2.2.2.2.2))]) (pre := []) (post := []) (As := []) (rest := []) (q0 := 0) ⟨hx, hb, hml, hown, hts⟩ hr2 (cwV 0 hts gX6_finished_X6_remembers rfl rfl rfl qvX6_remembers ⟨Nat.le_of_ble_eq_true rfl, Nat.le_of_ble_eq_true rfl⟩) hK hP hD hS hA rfl rfl rfl rfl rfl hl.1 rfl (Nat.le_of_ble_eq_true rfl) dX6_finished_13 ⟨Nat.zero_le _, Nat.zero_le _⟩ (fun H locs hP hD hS => ?_)
    refine lv_iload_n (pc := 16) hx hb dX6_finished_16 rfl (lv_at hl 1 rfl) ?_
    subst er2
    have hfn : fX6_finished M v = _ := if_pos c_1
    rw [hfn] at hQ
    exact hQ _ _ _ _ _ rfl hP hD hS dX6_finished_17
  · refine lv_aload_n (pc := 6) hx hb dX6_finished_6 rfl (lv_at hl 0 rfl) ?_
    refine lv_iload_n (pc := 7) hx hb dX6_finished_7 rfl (lv_at hl 1 rfl) ?_
    obtain ⟨r3, er3⟩ : ∃ z : Int32 × (Mdl), fX6_refuses M v = z := ⟨_, rfl⟩
    have hr3 := kX6_refuses l E a M v (hv c_1)
    rw [er3] at hr3
    refine gcVi (pc := 8) (w1 := [(a 0, .inr (6, [.ref (a 1), .ref (a 2), .ref (a 3), .int (r3.2.1 0), .ref (a 4), .ref (a 5), .int (r3.2.1 1), .int (r3.2.1 2), .int (r3.2.1 3), .ref (a 6), .ref (a 7), .int (r3.2.1 4), .int (r3.2.1 5), .int (r3.2.1 6), .long r3.2.2.1])), (a 1, .inl (eJ E, 68, .inr (.inl r3.2.2.2.1))), (a 2, .inl (eJ E, 68, .inr (.inl r3.2.2.2.2.1))), (a 3, .inl (eJ E, 340, .inr (.inl r3.2.2.2.2.2.1))), (a 4, .inl (eI E, 3, .inl r3.2.2.2.2.2.2.1)), (a 5, .inl (eI E, 120, .inl r3.2.2.2.2.2.2.2.1)), (a 6, .inl (eI E, 60, .inl r3.2.2.2.2.2.2.2.2.1)), (a 7, .inl (eI E, 120, .inl r3.2.2.2.2.2.2.2.2.2))]) (pre := []) (post := []) (As := [.int v]) (rest := []) (q0 := 0) ⟨hx, hb, hml, hown, hts⟩ hr3 (cwV 1 hts gX6_finished_X6_refuses rfl rfl rfl qvX6_refuses ⟨Nat.le_of_ble_eq_true rfl, Nat.le_of_ble_eq_true rfl⟩) hK hP hD hS hA rfl rfl rfl rfl rfl hl.1 rfl (Nat.le_of_ble_eq_true rfl) dX6_finished_8 ⟨Nat.zero_le _, Nat.zero_le _⟩ (fun H locs hP hD hS => ?_)
    subst er3
    have hfn : fX6_finished M v = _ := if_neg c_1
    rw [hfn] at hQ
    exact hQ _ _ _ _ _ rfl hP hD hS dX6_finished_11

def fX6_voltsAt (W : Nat → Int64) (v : Int32) : Int32 :=
  let x2 : Int32 := (if v = 1000 then 9 else (v / 100))
  let x4 : Int64 := (W ((13 + x2).toNatClampNeg))
  (x4 + ((((W (((13 + x2) + 1).toNatClampNeg)) - x4) * ((v - (100 * x2)).toInt64)) / 100)).toInt32
abbrev rX6_voltsAt : Room := { frames := 0, cells := 0, slots := 0, locals := 0 }
theorem mm_X6_voltsAt_1 : Cond.fieldLink RX6 7 "GaugeBoundsModel" "now" "[J" ∈ wsX6_voltsAt := List.mem_of_getElem? (i := 1) rfl
theorem mm_X6_voltsAt_2 : Cond.constantLong RX6 36 (100) ∈ wsX6_voltsAt := List.mem_of_getElem? (i := 2) rfl
theorem ii_X6_voltsAt_X6 : ∀ w ∈ wsX60, w ∈ wsX6_voltsAt := fun _ h => List.mem_cons_of_mem _ (List.mem_append_right _ (h))
theorem qvX6_voltsAt : yX6_voltsAt.cls = RX6 ∧ yX6_voltsAt.cls ≠ "java/lang/invoke/MethodHandle" ∧ yX6_voltsAt.cls ≠ "java/lang/invoke/VarHandle" ∧ (parseMethodDescriptor yX6_voltsAt.desc).map (fun d => d.parameters.length) = some 1 := by decide +kernel
set_option maxHeartbeats 4000000 in
set_option maxRecDepth 100000 in
theorem kX6_voltsAt (l : Launch) (E : gEnv) (a : Nat → Nat) (M : Mdl) (v : Int32) (hv : 0 ≤ v.toInt ∧ v.toInt ≤ 1000) : gMi l E yX6_voltsAt wsX6_voltsAt rX6_voltsAt [.ref (a 0), .int v] (wM E a M) (fX6_voltsAt M.2.2.1 v) (wM E a M) := by
  refine gMi_of (cc := cX6_voltsAt) (maxL := 5) (ret := (some .int)) (by decide) rfl rfl (Nat.le_of_ble_eq_true rfl) ?_
  intro p e s m args below meth c A Q ls hB hQ
  obtain ⟨hx, hb, hml, hown, hts, hK, hP, hD, hA, hS, hl⟩ := hB
  have hown : s.vm.findClass RX6 = some m.cls := hown
  have hP : va_P E.1 vwCl [(a 0, .inr (6, [.ref (a 1), .ref (a 2), .ref (a 3), .int (M.1 0), .ref (a 4), .ref (a 5), .int (M.1 1), .int (M.1 2), .int (M.1 3), .ref (a 6), .ref (a 7), .int (M.1 4), .int (M.1 5), .int (M.1 6), .long M.2.1])), (a 1, .inl (eJ E, 68, .inr (.inl M.2.2.1))), (a 2, .inl (eJ E, 68, .inr (.inl M.2.2.2.1))), (a 3, .inl (eJ E, 340, .inr (.inl M.2.2.2.2.1))), (a 4, .inl (eI E, 3, .inl M.2.2.2.2.2.1)), (a 5, .inl (eI E, 120, .inl M.2.2.2.2.2.2.1)), (a 6, .inl (eI E, 60, .inl M.2.2.2.2.2.2.2.1)), (a 7, .inl (eI E, 120, .inl M.2.2.2.2.2.2.2.2))] s.heap := hP
  have hD : va_D A [(a 0, .inr (6, [.ref (a 1), .ref (a 2), .ref (a 3), .int (M.1 0), .ref (a 4), .ref (a 5), .int (M.1 1), .int (M.1 2), .int (M.1 3), .ref (a 6), .ref (a 7), .int (M.1 4), .int (M.1 5), .int (M.1 6), .long M.2.1])), (a 1, .inl (eJ E, 68, .inr (.inl M.2.2.1))), (a 2, .inl (eJ E, 68, .inr (.inl M.2.2.2.1))), (a 3, .inl (eJ E, 340, .inr (.inl M.2.2.2.2.1))), (a 4, .inl (eI E, 3, .inl M.2.2.2.2.2.1)), (a 5, .inl (eI E, 120, .inl M.2.2.2.2.2.2.1)), (a 6, .inl (eI E, 60, .inl M.2.2.2.2.2.2.2.1)), (a 7, .inl (eI E, 120, .inl M.2.2.2.2.2.2.2.2))] := hD
  have hl : lv_has ls 5 [(0, .ref (a 0)), (1, .int v)] := hl
  refine lv_iload_n (pc := 0) hx hb dX6_voltsAt_0 rfl (lv_at hl 1 rfl) ?_
  refine lv_sipush (v := 1000) (pc := 1) hx hb dX6_voltsAt_1 rfl ?_
  have J_3 : ∀ (H : Heap) (locs : List Loc) (ls : Array Slot) (x2 : Int32), (if v = 1000 then 9 else (v / 100)) = x2 → va_P E.1 vwCl [(a 0, .inr (6, [.ref (a 1), .ref (a 2), .ref (a 3), .int (M.1 0), .ref (a 4), .ref (a 5), .int (M.1 1), .int (M.1 2), .int (M.1 3), .ref (a 6), .ref (a 7), .int (M.1 4), .int (M.1 5), .int (M.1 6), .long M.2.1])), (a 1, .inl (eJ E, 68, .inr (.inl M.2.2.1))), (a 2, .inl (eJ E, 68, .inr (.inl M.2.2.2.1))), (a 3, .inl (eJ E, 340, .inr (.inl M.2.2.2.2.1))), (a 4, .inl (eI E, 3, .inl M.2.2.2.2.2.1)), (a 5, .inl (eI E, 120, .inl M.2.2.2.2.2.2.1)), (a 6, .inl (eI E, 60, .inl M.2.2.2.2.2.2.2.1)), (a 7, .inl (eI E, 120, .inl M.2.2.2.2.2.2.2.2))] H → va_D A [(a 0, .inr (6, [.ref (a 1), .ref (a 2), .ref (a 3), .int (M.1 0), .ref (a 4), .ref (a 5), .int (M.1 1), .int (M.1 2), .int (M.1 3), .ref (a 6), .ref (a 7), .int (M.1 4), .int (M.1 5), .int (M.1 6), .long M.2.1])), (a 1, .inl (eJ E, 68, .inr (.inl M.2.2.1))), (a 2, .inl (eJ E, 68, .inr (.inl M.2.2.2.1))), (a 3, .inl (eJ E, 340, .inr (.inl M.2.2.2.2.1))), (a 4, .inl (eI E, 3, .inl M.2.2.2.2.2.1)), (a 5, .inl (eI E, 120, .inl M.2.2.2.2.2.2.1)), (a 6, .inl (eI E, 60, .inl M.2.2.2.2.2.2.2.1)), (a 7, .inl (eI E, 120, .inl M.2.2.2.2.2.2.2.2))] → va_S A s.heap H locs → lv_has ls 5 [(0, .ref (a 0)), (1, .int v)] → W p l e rX6_voltsAt s m args below meth c H locs 0 0 Q (F0 m 16 ls [.int x2]) := by
    intro H locs ls x2 ex2 hP hD hS hl
    refine lv_istore_n (lv' := [(2, .int x2), (0, .ref (a 0)), (1, .int v)]) (pc := 16) hx hb dX6_voltsAt_16 rfl hl (by decide) rfl (fun ls hl => ?_)
    refine lv_aload_n (pc := 17) hx hb dX6_voltsAt_17 rfl (lv_at hl 1 rfl) ?_
    refine g_get (v := .ref (a 1)) (pc := 18) hx hb hts ii_X6_voltsAt_X6 hown hK.1 hP 0 rfl rfl 0 (by decide) ⟨rfl, rfl, rfl⟩ mm_X6_voltsAt_1 rfl dX6_voltsAt_18 ?_
    refine lv_bipush (v := 13) (pc := 21) hx hb dX6_voltsAt_21 rfl ?_
    refine lv_iload_n (pc := 23) hx hb dX6_voltsAt_23 rfl (lv_at hl 0 rfl) ?_
    refine lv_iadd (pc := 24) hx hb dX6_voltsAt_24 ?_
    refine g_lald (j := (13 + x2).toNatClampNeg) (v := (M.2.2.1 ((13 + x2).toNatClampNeg))) (pc := 25) hx hb hK.1 hP 1 1 rfl rfl (ix_o1 13 (by decide) (iv_1000 hv ex2).1 (by have := (iv_1000 hv ex2).2; simp only [Int32.reduceToInt]; omega) (by decide)) rfl rfl dX6_voltsAt_25 ?_
    refine g_topl (fun x4 ex4 => ?_)
    refine lv_lstore_n (lv' := [(3, .long x4), (2, .int x2), (0, .ref (a 0)), (1, .int v)]) (pc := 26) hx hb dX6_voltsAt_26 rfl hl (by decide) rfl (fun ls hl => ?_)
    refine lv_lload_n (pc := 27) hx hb dX6_voltsAt_27 rfl (lv_at hl 0 rfl) ?_
    refine lv_aload_n (pc := 28) hx hb dX6_voltsAt_28 rfl (lv_at hl 2 rfl) ?_
    refine g_get (v := .ref (a 1)) (pc := 29) hx hb hts ii_X6_voltsAt_X6 hown hK.1 hP 0 rfl rfl 0 (by decide) ⟨rfl, rfl, rfl⟩ mm_X6_voltsAt_1 rfl dX6_voltsAt_29 ?_
    refine lv_bipush (v := 13) (pc := 32) hx hb dX6_voltsAt_32 rfl ?_
    refine lv_iload_n (pc := 34) hx hb dX6_voltsAt_34 rfl (lv_at hl 1 rfl) ?_
    refine lv_iadd (pc := 35) hx hb dX6_voltsAt_35 ?_
    refine lv_iconst (v := 1) (pc := 36) hx hb dX6_voltsAt_36 rfl ?_
    refine lv_iadd (pc := 37) hx hb dX6_voltsAt_37 ?_
    refine g_lald (j := ((13 + x2) + 1).toNatClampNeg) (v := (M.2.2.1 (((13 + x2) + 1).toNatClampNeg))) (pc := 38) hx hb hK.1 hP 1 1 rfl rfl (ix_o2 13 1 (by decide) (by decide) (iv_1000 hv ex2).1 (by have := (iv_1000 hv ex2).2; simp only [Int32.reduceToInt]; omega) (by decide)) rfl rfl dX6_voltsAt_38 ?_
    refine lv_lload_n (pc := 39) hx hb dX6_voltsAt_39 rfl (lv_at hl 0 rfl) ?_
    refine lv_lsub (pc := 40) hx hb dX6_voltsAt_40 ?_
    refine lv_iload_n (pc := 41) hx hb dX6_voltsAt_41 rfl (lv_at hl 3 rfl) ?_
    refine lv_bipush (v := 100) (pc := 42) hx hb dX6_voltsAt_42 rfl ?_
    refine lv_iload_n (pc := 44) hx hb dX6_voltsAt_44 rfl (lv_at hl 1 rfl) ?_
    refine lv_imul (pc := 45) hx hb dX6_voltsAt_45 ?_
    refine lv_isub (pc := 46) hx hb dX6_voltsAt_46 ?_
    refine lv_i2l (v := (v - (100 * x2)).toInt64) (pc := 47) hx hb dX6_voltsAt_47 rfl ?_
    refine lv_lmul (pc := 48) hx hb dX6_voltsAt_48 ?_
    refine lv_ldc2 (v := (100)) (pc := 49) hx hb hown (hts _ mm_X6_voltsAt_2) dX6_voltsAt_49 ?_
    refine lv_ldiv (pc := 52) hx hb dX6_voltsAt_52 (by decide) ?_
    refine lv_ladd (pc := 53) hx hb dX6_voltsAt_53 ?_
    refine lv_l2i (v := (x4 + ((((M.2.2.1 (((13 + x2) + 1).toNatClampNeg)) - x4) * ((v - (100 * x2)).toInt64)) / 100)).toInt32) (pc := 54) hx hb dX6_voltsAt_54 rfl ?_
    subst ex4
    subst ex2
    exact hQ _ _ _ _ _ rfl hP hD hS dX6_voltsAt_55
  refine lv_icmp_ne (tgt := 12) (pc := 4) hx hb dX6_voltsAt_4 (by decide) (fun c_1 => ?_) (fun c_1 => ?_)
  · refine lv_iload_n (pc := 12) hx hb dX6_voltsAt_12 rfl (lv_at hl 1 rfl) ?_
    refine lv_bipush (v := 100) (pc := 13) hx hb dX6_voltsAt_13 rfl ?_
    refine lv_idiv (pc := 15) hx hb dX6_voltsAt_15 (by decide) ?_
    exact J_3 _ _ _ _ (if_neg c_1) hP hD hS (lv_sub hl [0, 1] rfl)
  · refine lv_bipush (v := 9) (pc := 7) hx hb dX6_voltsAt_7 rfl ?_
    refine lv_goto (tgt := 16) (pc := 9) hx hb dX6_voltsAt_9 (by decide) ?_
    exact J_3 _ _ _ _ (if_pos c_1) hP hD hS (lv_sub hl [0, 1] rfl)

theorem it_ex {α : Type} (z : α) (f : Nat → α → α) : ∃ h : Nat → α, h 0 = z ∧ ∀ i, h (i + 1) = f i (h i) := ⟨fun n => Nat.rec z (fun i q => f i q) n, rfl, fun _ => rfl⟩
/-- f again and again: nothing unfolds it but its two rows -/
noncomputable def it {α : Type} (z : α) (f : Nat → α → α) : Nat → α := Classical.choose (it_ex z f)
theorem it_0 {α : Type} (z : α) (f : Nat → α → α) : it z f 0 = z := (Classical.choose_spec (it_ex z f)).1
theorem it_s {α : Type} (z : α) (f : Nat → α → α) (i : Nat) : it z f (i + 1) = f i (it z f i) := (Classical.choose_spec (it_ex z f)).2 i
noncomputable def lpLG (W : Nat → Int64) (g v : Int32) (n : Nat) : Int32 × Int32 := it ((-10000001), (-10000001)) (fun i q => (if q.1 = (-10000001) then (if (fX6_voltsAt W (nI i) + g) < v then q.1 else nI i) else q.1, if v < (fX6_voltsAt W (nI i) - g) then q.2 else nI i)) n
theorem lpLG_0 (W : Nat → Int64) (g v : Int32) : lpLG W g v 0 = ((-10000001), (-10000001)) := it_0 _ _
theorem lpLG_s (W : Nat → Int64) (g v : Int32) (i : Nat) : lpLG W g v (i + 1) = (if (lpLG W g v i).1 = (-10000001) then (if (fX6_voltsAt W (nI i) + g) < v then (lpLG W g v i).1 else nI i) else (lpLG W g v i).1, if v < (fX6_voltsAt W (nI i) - g) then (lpLG W g v i).2 else nI i) := it_s _ _ i
theorem hv_i {i : Nat} (h : i < 1001) : 0 ≤ (nI i).toInt ∧ (nI i).toInt ≤ 1000 := by rw [nI_toInt (by omega)]; omega

noncomputable def fX6_turns (M : Mdl) (v : Int32) : Mdl :=
  let x1 : Int32 := (M.2.2.1 12).toInt32
  let x8 : Int32 := (if ((lpLG M.2.2.1 x1 v 1001).1) = (-10000001) then (nI 1001) else (if ((lpLG M.2.2.1 x1 v 1001).2) = (-10000001) then (nI 1001) else (if ((lpLG M.2.2.1 x1 v 1001).1) ≤ ((lpLG M.2.2.1 x1 v 1001).2) then (nI 1001) else (let x10 : Int32 := (lpLG M.2.2.1 x1 v 1001).1; (let x11 : Int32 := (lpLG M.2.2.1 x1 v 1001).2; x10)))))
  let x9 : Int32 := (if ((lpLG M.2.2.1 x1 v 1001).1) = (-10000001) then ((lpLG M.2.2.1 x1 v 1001).1) else (if ((lpLG M.2.2.1 x1 v 1001).2) = (-10000001) then ((lpLG M.2.2.1 x1 v 1001).1) else (if ((lpLG M.2.2.1 x1 v 1001).1) ≤ ((lpLG M.2.2.1 x1 v 1001).2) then ((lpLG M.2.2.1 x1 v 1001).1) else (let x10 : Int32 := (lpLG M.2.2.1 x1 v 1001).1; (let x11 : Int32 := (lpLG M.2.2.1 x1 v 1001).2; x11)))))
  let x10 : Int32 := (if ((lpLG M.2.2.1 x1 v 1001).1) = (-10000001) then ((lpLG M.2.2.1 x1 v 1001).2) else (if ((lpLG M.2.2.1 x1 v 1001).2) = (-10000001) then ((lpLG M.2.2.1 x1 v 1001).2) else (if ((lpLG M.2.2.1 x1 v 1001).1) ≤ ((lpLG M.2.2.1 x1 v 1001).2) then ((lpLG M.2.2.1 x1 v 1001).2) else (let x10 : Int32 := (lpLG M.2.2.1 x1 v 1001).1; (let x11 : Int32 := (lpLG M.2.2.1 x1 v 1001).2; x10)))))
  ((upd (upd (upd (upd (upd (upd M.1 2 (-10000001)) 3 (-10000001)) 2 ((lpLG M.2.2.1 x1 v 1001).1)) 3 ((lpLG M.2.2.1 x1 v 1001).2)) 2 x9) 3 x10), M.2.1, M.2.2.1, M.2.2.2.1, M.2.2.2.2.1, M.2.2.2.2.2.1, M.2.2.2.2.2.2.1, M.2.2.2.2.2.2.2.1, M.2.2.2.2.2.2.2.2)
abbrev rX6_turns : Room := { frames := 1, cells := 0, slots := 0, locals := 24 }
theorem mm_X6_turns_1 : Cond.fieldLink RX6 7 "GaugeBoundsModel" "now" "[J" ∈ wsX6_turns := List.mem_of_getElem? (i := 1) rfl
theorem mm_X6_turns_2 : Cond.constant RX6 57 (-10000001) ∈ wsX6_turns := List.mem_of_getElem? (i := 2) rfl
theorem mm_X6_turns_3 : Cond.fieldLink RX6 58 "GaugeBoundsModel" "least" "I" ∈ wsX6_turns := List.mem_of_getElem? (i := 3) rfl
theorem mm_X6_turns_4 : Cond.fieldLink RX6 61 "GaugeBoundsModel" "greatest" "I" ∈ wsX6_turns := List.mem_of_getElem? (i := 4) rfl
theorem ii_X6_turns_X6 : ∀ w ∈ wsX60, w ∈ wsX6_turns := fun _ h => List.mem_cons_of_mem _ (List.mem_append_right _ (h))
theorem qvX6_turns : yX6_turns.cls = RX6 ∧ yX6_turns.cls ≠ "java/lang/invoke/MethodHandle" ∧ yX6_turns.cls ≠ "java/lang/invoke/VarHandle" ∧ (parseMethodDescriptor yX6_turns.desc).map (fun d => d.parameters.length) = some 1 := by decide +kernel
set_option maxHeartbeats 4000000 in
set_option maxRecDepth 100000 in
theorem kX6_turns (l : Launch) (E : gEnv) (a : Nat → Nat) (M : Mdl) (v : Int32) : gMv l E yX6_turns wsX6_turns rX6_turns [.ref (a 0), .int v] (wM E a M) (wM E a (fX6_turns M v)) := by
  refine gMv_of (cc := cX6_turns) (maxL := 5) (ret := none) (by decide) rfl rfl (Nat.le_of_ble_eq_true rfl) ?_
  intro p e s m args below meth c A Q ls hB hQ
  obtain ⟨hx, hb, hml, hown, hts, hK, hP, hD, hA, hS, hl⟩ := hB
  have hown : s.vm.findClass RX6 = some m.cls := hown
  have hP : va_P E.1 vwCl [(a 0, .inr (6, [.ref (a 1), .ref (a 2), .ref (a 3), .int (M.1 0), .ref (a 4), .ref (a 5), .int (M.1 1), .int (M.1 2), .int (M.1 3), .ref (a 6), .ref (a 7), .int (M.1 4), .int (M.1 5), .int (M.1 6), .long M.2.1])), (a 1, .inl (eJ E, 68, .inr (.inl M.2.2.1))), (a 2, .inl (eJ E, 68, .inr (.inl M.2.2.2.1))), (a 3, .inl (eJ E, 340, .inr (.inl M.2.2.2.2.1))), (a 4, .inl (eI E, 3, .inl M.2.2.2.2.2.1)), (a 5, .inl (eI E, 120, .inl M.2.2.2.2.2.2.1)), (a 6, .inl (eI E, 60, .inl M.2.2.2.2.2.2.2.1)), (a 7, .inl (eI E, 120, .inl M.2.2.2.2.2.2.2.2))] s.heap := hP
  have hD : va_D A [(a 0, .inr (6, [.ref (a 1), .ref (a 2), .ref (a 3), .int (M.1 0), .ref (a 4), .ref (a 5), .int (M.1 1), .int (M.1 2), .int (M.1 3), .ref (a 6), .ref (a 7), .int (M.1 4), .int (M.1 5), .int (M.1 6), .long M.2.1])), (a 1, .inl (eJ E, 68, .inr (.inl M.2.2.1))), (a 2, .inl (eJ E, 68, .inr (.inl M.2.2.2.1))), (a 3, .inl (eJ E, 340, .inr (.inl M.2.2.2.2.1))), (a 4, .inl (eI E, 3, .inl M.2.2.2.2.2.1)), (a 5, .inl (eI E, 120, .inl M.2.2.2.2.2.2.1)), (a 6, .inl (eI E, 60, .inl M.2.2.2.2.2.2.2.1)), (a 7, .inl (eI E, 120, .inl M.2.2.2.2.2.2.2.2))] := hD
  have hl : lv_has ls 5 [(0, .ref (a 0)), (1, .int v)] := hl
  refine lv_aload_n (pc := 0) hx hb dX6_turns_0 rfl (lv_at hl 0 rfl) ?_
  refine g_get (v := .ref (a 1)) (pc := 1) hx hb hts ii_X6_turns_X6 hown hK.1 hP 0 rfl rfl 0 (by decide) ⟨rfl, rfl, rfl⟩ mm_X6_turns_1 rfl dX6_turns_1 ?_
  refine lv_bipush (v := 12) (pc := 4) hx hb dX6_turns_4 rfl ?_
  refine g_lald (j := 12) (v := (M.2.2.1 12)) (pc := 6) hx hb hK.1 hP 1 1 rfl rfl (g_in (by decide +kernel)) rfl rfl dX6_turns_6 ?_
  refine lv_l2i (v := (M.2.2.1 12).toInt32) (pc := 7) hx hb dX6_turns_7 rfl ?_
  refine g_topi (fun x1 ex1 => ?_)
  refine lv_istore_n (lv' := [(2, .int x1), (0, .ref (a 0)), (1, .int v)]) (pc := 8) hx hb dX6_turns_8 rfl hl (by decide) rfl (fun ls hl => ?_)
  refine lv_aload_n (pc := 9) hx hb dX6_turns_9 rfl (lv_at hl 1 rfl) ?_
  refine lv_ldc (v := (-10000001)) (pc := 10) hx hb hown (hts _ mm_X6_turns_2) dX6_turns_10 ?_
  refine g_put (w1 := [(a 0, .inr (6, [.ref (a 1), .ref (a 2), .ref (a 3), .int (M.1 0), .ref (a 4), .ref (a 5), .int (M.1 1), .int (-10000001), .int (M.1 3), .ref (a 6), .ref (a 7), .int (M.1 4), .int (M.1 5), .int (M.1 6), .long M.2.1])), (a 1, .inl (eJ E, 68, .inr (.inl M.2.2.1))), (a 2, .inl (eJ E, 68, .inr (.inl M.2.2.2.1))), (a 3, .inl (eJ E, 340, .inr (.inl M.2.2.2.2.1))), (a 4, .inl (eI E, 3, .inl M.2.2.2.2.2.1)), (a 5, .inl (eI E, 120, .inl M.2.2.2.2.2.2.1)), (a 6, .inl (eI E, 60, .inl M.2.2.2.2.2.2.2.1)), (a 7, .inl (eI E, 120, .inl M.2.2.2.2.2.2.2.2))]) (pc := 12) hx hb hts ii_X6_turns_X6 tyX6 tyX6_ok nmX6 hown hK.1 hP hD hS 0 rfl rfl 7 (by decide) ⟨rfl, rfl, rfl⟩ mm_X6_turns_3 rfl rfl rfl rfl (Nat.le_of_ble_eq_true rfl) rfl dX6_turns_12 (fun H locs hP hD hS => ?_)
  refine lv_aload_n (pc := 15) hx hb dX6_turns_15 rfl (lv_at hl 1 rfl) ?_
  refine lv_ldc (v := (-10000001)) (pc := 16) hx hb hown (hts _ mm_X6_turns_2) dX6_turns_16 ?_
  refine g_put (w1 := [(a 0, .inr (6, [.ref (a 1), .ref (a 2), .ref (a 3), .int (M.1 0), .ref (a 4), .ref (a 5), .int (M.1 1), .int (-10000001), .int (-10000001), .ref (a 6), .ref (a 7), .int (M.1 4), .int (M.1 5), .int (M.1 6), .long M.2.1])), (a 1, .inl (eJ E, 68, .inr (.inl M.2.2.1))), (a 2, .inl (eJ E, 68, .inr (.inl M.2.2.2.1))), (a 3, .inl (eJ E, 340, .inr (.inl M.2.2.2.2.1))), (a 4, .inl (eI E, 3, .inl M.2.2.2.2.2.1)), (a 5, .inl (eI E, 120, .inl M.2.2.2.2.2.2.1)), (a 6, .inl (eI E, 60, .inl M.2.2.2.2.2.2.2.1)), (a 7, .inl (eI E, 120, .inl M.2.2.2.2.2.2.2.2))]) (pc := 18) hx hb hts ii_X6_turns_X6 tyX6 tyX6_ok nmX6 hown hK.1 hP hD hS 0 rfl rfl 8 (by decide) ⟨rfl, rfl, rfl⟩ mm_X6_turns_4 rfl rfl rfl rfl (Nat.le_of_ble_eq_true rfl) rfl dX6_turns_18 (fun H locs hP hD hS => ?_)
  refine lv_iconst (v := 0) (pc := 21) hx hb dX6_turns_21 rfl ?_
  refine lv_istore_n (lv' := [(3, .int 0), (2, .int x1), (0, .ref (a 0)), (1, .int v)]) (pc := 22) hx hb dX6_turns_22 rfl hl (by decide) rfl (fun ls hl => ?_)
  have loop5 : ∀ (n3 i2 : Nat), i2 + n3 = 1001 → ∀ (H : Heap) (locs : List Loc) (ls : Array Slot), va_P E.1 vwCl [(a 0, .inr (6, [.ref (a 1), .ref (a 2), .ref (a 3), .int (M.1 0), .ref (a 4), .ref (a 5), .int (M.1 1), .int ((lpLG M.2.2.1 x1 v i2).1), .int ((lpLG M.2.2.1 x1 v i2).2), .ref (a 6), .ref (a 7), .int (M.1 4), .int (M.1 5), .int (M.1 6), .long M.2.1])), (a 1, .inl (eJ E, 68, .inr (.inl M.2.2.1))), (a 2, .inl (eJ E, 68, .inr (.inl M.2.2.2.1))), (a 3, .inl (eJ E, 340, .inr (.inl M.2.2.2.2.1))), (a 4, .inl (eI E, 3, .inl M.2.2.2.2.2.1)), (a 5, .inl (eI E, 120, .inl M.2.2.2.2.2.2.1)), (a 6, .inl (eI E, 60, .inl M.2.2.2.2.2.2.2.1)), (a 7, .inl (eI E, 120, .inl M.2.2.2.2.2.2.2.2))] H → va_D A [(a 0, .inr (6, [.ref (a 1), .ref (a 2), .ref (a 3), .int (M.1 0), .ref (a 4), .ref (a 5), .int (M.1 1), .int ((lpLG M.2.2.1 x1 v i2).1), .int ((lpLG M.2.2.1 x1 v i2).2), .ref (a 6), .ref (a 7), .int (M.1 4), .int (M.1 5), .int (M.1 6), .long M.2.1])), (a 1, .inl (eJ E, 68, .inr (.inl M.2.2.1))), (a 2, .inl (eJ E, 68, .inr (.inl M.2.2.2.1))), (a 3, .inl (eJ E, 340, .inr (.inl M.2.2.2.2.1))), (a 4, .inl (eI E, 3, .inl M.2.2.2.2.2.1)), (a 5, .inl (eI E, 120, .inl M.2.2.2.2.2.2.1)), (a 6, .inl (eI E, 60, .inl M.2.2.2.2.2.2.2.1)), (a 7, .inl (eI E, 120, .inl M.2.2.2.2.2.2.2.2))] → va_S A s.heap H locs → lv_has ls 5 [(0, .ref (a 0)), (1, .int v), (2, .int x1), (3, .int (nI i2))] → W p l e rX6_turns s m args below meth c H locs 0 0 Q (F0 m 23 ls []) := by
    intro n3
    induction n3 with
    | zero =>
      intro i2 hi H locs ls hP hD hS hl
      obtain rfl : i2 = 1001 := by omega
      refine lv_iload_n (pc := 23) hx hb dX6_turns_23 rfl (lv_at hl 3 rfl) ?_
      refine lv_sipush (v := 1000) (pc := 24) hx hb dX6_turns_24 rfl ?_
      refine lv_icmp_gt (tgt := 92) (pc := 27) hx hb dX6_turns_27 (by decide) (fun c_6 => ?_) (fun c_6 => ?_)
      rotate_left
      · exact absurd (nI_lt (a := 1000) (b := 1001) (by decide) (by decide)) c_6
      refine lv_aload_n (pc := 92) hx hb dX6_turns_92 rfl (lv_at hl 0 rfl) ?_
      refine g_get (v := .int ((lpLG M.2.2.1 x1 v 1001).1)) (pc := 93) hx hb hts ii_X6_turns_X6 hown hK.1 hP 0 rfl rfl 7 (by decide) ⟨rfl, rfl, rfl⟩ mm_X6_turns_3 rfl dX6_turns_93 ?_
      refine lv_ldc (v := (-10000001)) (pc := 96) hx hb hown (hts _ mm_X6_turns_2) dX6_turns_96 ?_
      have J_11 : ∀ (H : Heap) (locs : List Loc) (ls : Array Slot) (x8 : Int32) (x9 : Int32) (x10 : Int32), (if ((lpLG M.2.2.1 x1 v 1001).1) = (-10000001) then (nI 1001) else (if ((lpLG M.2.2.1 x1 v 1001).2) = (-10000001) then (nI 1001) else (if ((lpLG M.2.2.1 x1 v 1001).1) ≤ ((lpLG M.2.2.1 x1 v 1001).2) then (nI 1001) else (let x10 : Int32 := (lpLG M.2.2.1 x1 v 1001).1; (let x11 : Int32 := (lpLG M.2.2.1 x1 v 1001).2; x10))))) = x8 → (if ((lpLG M.2.2.1 x1 v 1001).1) = (-10000001) then ((lpLG M.2.2.1 x1 v 1001).1) else (if ((lpLG M.2.2.1 x1 v 1001).2) = (-10000001) then ((lpLG M.2.2.1 x1 v 1001).1) else (if ((lpLG M.2.2.1 x1 v 1001).1) ≤ ((lpLG M.2.2.1 x1 v 1001).2) then ((lpLG M.2.2.1 x1 v 1001).1) else (let x10 : Int32 := (lpLG M.2.2.1 x1 v 1001).1; (let x11 : Int32 := (lpLG M.2.2.1 x1 v 1001).2; x11))))) = x9 → (if ((lpLG M.2.2.1 x1 v 1001).1) = (-10000001) then ((lpLG M.2.2.1 x1 v 1001).2) else (if ((lpLG M.2.2.1 x1 v 1001).2) = (-10000001) then ((lpLG M.2.2.1 x1 v 1001).2) else (if ((lpLG M.2.2.1 x1 v 1001).1) ≤ ((lpLG M.2.2.1 x1 v 1001).2) then ((lpLG M.2.2.1 x1 v 1001).2) else (let x10 : Int32 := (lpLG M.2.2.1 x1 v 1001).1; (let x11 : Int32 := (lpLG M.2.2.1 x1 v 1001).2; x10))))) = x10 → va_P E.1 vwCl [(a 0, .inr (6, [.ref (a 1), .ref (a 2), .ref (a 3), .int (M.1 0), .ref (a 4), .ref (a 5), .int (M.1 1), .int x9, .int x10, .ref (a 6), .ref (a 7), .int (M.1 4), .int (M.1 5), .int (M.1 6), .long M.2.1])), (a 1, .inl (eJ E, 68, .inr (.inl M.2.2.1))), (a 2, .inl (eJ E, 68, .inr (.inl M.2.2.2.1))), (a 3, .inl (eJ E, 340, .inr (.inl M.2.2.2.2.1))), (a 4, .inl (eI E, 3, .inl M.2.2.2.2.2.1)), (a 5, .inl (eI E, 120, .inl M.2.2.2.2.2.2.1)), (a 6, .inl (eI E, 60, .inl M.2.2.2.2.2.2.2.1)), (a 7, .inl (eI E, 120, .inl M.2.2.2.2.2.2.2.2))] H → va_D A [(a 0, .inr (6, [.ref (a 1), .ref (a 2), .ref (a 3), .int (M.1 0), .ref (a 4), .ref (a 5), .int (M.1 1), .int x9, .int x10, .ref (a 6), .ref (a 7), .int (M.1 4), .int (M.1 5), .int (M.1 6), .long M.2.1])), (a 1, .inl (eJ E, 68, .inr (.inl M.2.2.1))), (a 2, .inl (eJ E, 68, .inr (.inl M.2.2.2.1))), (a 3, .inl (eJ E, 340, .inr (.inl M.2.2.2.2.1))), (a 4, .inl (eI E, 3, .inl M.2.2.2.2.2.1)), (a 5, .inl (eI E, 120, .inl M.2.2.2.2.2.2.1)), (a 6, .inl (eI E, 60, .inl M.2.2.2.2.2.2.2.1)), (a 7, .inl (eI E, 120, .inl M.2.2.2.2.2.2.2.2))] → va_S A s.heap H locs → lv_has ls 5 [(0, .ref (a 0)), (1, .int v), (2, .int x1), (3, .int x8)] → W p l e rX6_turns s m args below meth c H locs 0 0 Q (F0 m 139 ls []) := by
        intro H locs ls x8 x9 x10 ex8 ex9 ex10 hP hD hS hl
        subst ex10
        subst ex9
        subst ex8
        subst ex1
        exact hQ _ _ _ _ hP hD hS dX6_turns_139
      refine lv_icmp_eq (tgt := 139) (pc := 98) hx hb dX6_turns_98 (by decide) (fun c_7 => ?_) (fun c_7 => ?_)
      · exact J_11 _ _ _ _ _ _ (if_pos c_7) (if_pos c_7) (if_pos c_7) hP hD hS (lv_sub hl [0, 1, 2, 3] rfl)
      · refine lv_aload_n (pc := 101) hx hb dX6_turns_101 rfl (lv_at hl 0 rfl) ?_
        refine g_get (v := .int ((lpLG M.2.2.1 x1 v 1001).2)) (pc := 102) hx hb hts ii_X6_turns_X6 hown hK.1 hP 0 rfl rfl 8 (by decide) ⟨rfl, rfl, rfl⟩ mm_X6_turns_4 rfl dX6_turns_102 ?_
        refine lv_ldc (v := (-10000001)) (pc := 105) hx hb hown (hts _ mm_X6_turns_2) dX6_turns_105 ?_
        refine lv_icmp_eq (tgt := 139) (pc := 107) hx hb dX6_turns_107 (by decide) (fun c_8 => ?_) (fun c_8 => ?_)
        · exact J_11 _ _ _ _ _ _ ((if_neg c_7).trans (if_pos c_8)) ((if_neg c_7).trans (if_pos c_8)) ((if_neg c_7).trans (if_pos c_8)) hP hD hS (lv_sub hl [0, 1, 2, 3] rfl)
        · refine lv_aload_n (pc := 110) hx hb dX6_turns_110 rfl (lv_at hl 0 rfl) ?_
          refine g_get (v := .int ((lpLG M.2.2.1 x1 v 1001).1)) (pc := 111) hx hb hts ii_X6_turns_X6 hown hK.1 hP 0 rfl rfl 7 (by decide) ⟨rfl, rfl, rfl⟩ mm_X6_turns_3 rfl dX6_turns_111 ?_
          refine lv_aload_n (pc := 114) hx hb dX6_turns_114 rfl (lv_at hl 0 rfl) ?_
          refine g_get (v := .int ((lpLG M.2.2.1 x1 v 1001).2)) (pc := 115) hx hb hts ii_X6_turns_X6 hown hK.1 hP 0 rfl rfl 8 (by decide) ⟨rfl, rfl, rfl⟩ mm_X6_turns_4 rfl dX6_turns_115 ?_
          refine lv_icmp_le (tgt := 139) (pc := 118) hx hb dX6_turns_118 (by decide) (fun c_9 => ?_) (fun c_9 => ?_)
          · exact J_11 _ _ _ _ _ _ ((if_neg c_7).trans ((if_neg c_8).trans (if_pos c_9))) ((if_neg c_7).trans ((if_neg c_8).trans (if_pos c_9))) ((if_neg c_7).trans ((if_neg c_8).trans (if_pos c_9))) hP hD hS (lv_sub hl [0, 1, 2, 3] rfl)
          · refine lv_aload_n (pc := 121) hx hb dX6_turns_121 rfl (lv_at hl 0 rfl) ?_
            refine g_get (v := .int ((lpLG M.2.2.1 x1 v 1001).1)) (pc := 122) hx hb hts ii_X6_turns_X6 hown hK.1 hP 0 rfl rfl 7 (by decide) ⟨rfl, rfl, rfl⟩ mm_X6_turns_3 rfl dX6_turns_122 ?_
            refine g_topi (fun x10 ex10 => ?_)
            refine lv_istore_n (lv' := [(3, .int x10), (0, .ref (a 0)), (1, .int v), (2, .int x1)]) (pc := 125) hx hb dX6_turns_125 rfl hl (by decide) rfl (fun ls hl => ?_)
            refine lv_aload_n (pc := 126) hx hb dX6_turns_126 rfl (lv_at hl 1 rfl) ?_
            refine lv_aload_n (pc := 127) hx hb dX6_turns_127 rfl (lv_at hl 1 rfl) ?_
            refine g_get (v := .int ((lpLG M.2.2.1 x1 v 1001).2)) (pc := 128) hx hb hts ii_X6_turns_X6 hown hK.1 hP 0 rfl rfl 8 (by decide) ⟨rfl, rfl, rfl⟩ mm_X6_turns_4 rfl dX6_turns_128 ?_
            refine g_topi (fun x11 ex11 => ?_)
            refine g_put (w1 := [(a 0, .inr (6, [.ref (a 1), .ref (a 2), .ref (a 3), .int (M.1 0), .ref (a 4), .ref (a 5), .int (M.1 1), .int x11, .int ((lpLG M.2.2.1 x1 v 1001).2), .ref (a 6), .ref (a 7), .int (M.1 4), .int (M.1 5), .int (M.1 6), .long M.2.1])), (a 1, .inl (eJ E, 68, .inr (.inl M.2.2.1))), (a 2, .inl (eJ E, 68, .inr (.inl M.2.2.2.1))), (a 3, .inl (eJ E, 340, .inr (.inl M.2.2.2.2.1))), (a 4, .inl (eI E, 3, .inl M.2.2.2.2.2.1)), (a 5, .inl (eI E, 120, .inl M.2.2.2.2.2.2.1)), (a 6, .inl (eI E, 60, .inl M.2.2.2.2.2.2.2.1)), (a 7, .inl (eI E, 120, .inl M.2.2.2.2.2.2.2.2))]) (pc := 131) hx hb hts ii_X6_turns_X6 tyX6 tyX6_ok nmX6 hown hK.1 hP hD hS 0 rfl rfl 7 (by decide) ⟨rfl, rfl, rfl⟩ mm_X6_turns_3 rfl rfl rfl rfl (Nat.le_of_ble_eq_true rfl) rfl dX6_turns_131 (fun H locs hP hD hS => ?_)
            refine lv_aload_n (pc := 134) hx hb dX6_turns_134 rfl (lv_at hl 1 rfl) ?_
            refine lv_iload_n (pc := 135) hx hb dX6_turns_135 rfl (lv_at hl 0 rfl) ?_
            refine g_put (w1 := [(a 0, .inr (6, [.ref (a 1), .ref (a 2), .ref (a 3), .int (M.1 0), .ref (a 4), .ref (a 5), .int (M.1 1), .int x11, .int x10, .ref (a 6), .ref (a 7), .int (M.1 4), .int (M.1 5), .int (M.1 6), .long M.2.1])), (a 1, .inl (eJ E, 68, .inr (.inl M.2.2.1))), (a 2, .inl (eJ E, 68, .inr (.inl M.2.2.2.1))), (a 3, .inl (eJ E, 340, .inr (.inl M.2.2.2.2.1))), (a 4, .inl (eI E, 3, .inl M.2.2.2.2.2.1)), (a 5, .inl (eI E, 120, .inl M.2.2.2.2.2.2.1)), (a 6, .inl (eI E, 60, .inl M.2.2.2.2.2.2.2.1)), (a 7, .inl (eI E, 120, .inl M.2.2.2.2.2.2.2.2))]) (pc := 136) hx hb hts ii_X6_turns_X6 tyX6 tyX6_ok nmX6 hown hK.1 hP hD hS 0 rfl rfl 8 (by decide) ⟨rfl, rfl, rfl⟩ mm_X6_turns_4 rfl rfl rfl rfl (Nat.le_of_ble_eq_true rfl) rfl dX6_turns_136 (fun H locs hP hD hS => ?_)
            subst ex11
            subst ex10
            exact J_11 _ _ _ _ _ _ ((if_neg c_7).trans ((if_neg c_8).trans (if_neg c_9))) ((if_neg c_7).trans ((if_neg c_8).trans (if_neg c_9))) ((if_neg c_7).trans ((if_neg c_8).trans (if_neg c_9))) hP hD hS (lv_sub hl [1, 2, 3, 0] rfl)
    | succ n3 ih4 =>
      intro i2 hi H locs ls hP hD hS hl
      have hlt : i2 < 1001 := by omega
      refine lv_iload_n (pc := 23) hx hb dX6_turns_23 rfl (lv_at hl 3 rfl) ?_
      refine lv_sipush (v := 1000) (pc := 24) hx hb dX6_turns_24 rfl ?_
      refine lv_icmp_gt (tgt := 92) (pc := 27) hx hb dX6_turns_27 (by decide) (fun c_12 => ?_) (fun c_12 => ?_)
      · exact absurd c_12 (nI_nlt (a := 1000) (b := i2) (by omega) (by decide))
      refine lv_aload_n (pc := 30) hx hb dX6_turns_30 rfl (lv_at hl 0 rfl) ?_
      refine lv_iload_n (pc := 31) hx hb dX6_turns_31 rfl (lv_at hl 3 rfl) ?_
      obtain ⟨r13, er13⟩ : ∃ z : Int32, fX6_voltsAt M.2.2.1 (nI i2) = z := ⟨_, rfl⟩
      have hr13 := kX6_voltsAt l E a ((upd (upd (upd (upd M.1 2 (-10000001)) 3 (-10000001)) 2 ((lpLG M.2.2.1 x1 v i2).1)) 3 ((lpLG M.2.2.1 x1 v i2).2)), M.2.1, M.2.2.1, M.2.2.2.1, M.2.2.2.2.1, M.2.2.2.2.2.1, M.2.2.2.2.2.2.1, M.2.2.2.2.2.2.2.1, M.2.2.2.2.2.2.2.2) (nI i2) (hv_i hlt)
      dsimp only at hr13
      rw [er13] at hr13
      refine gcVi (pc := 32) (w1 := [(a 0, .inr (6, [.ref (a 1), .ref (a 2), .ref (a 3), .int (M.1 0), .ref (a 4), .ref (a 5), .int (M.1 1), .int ((lpLG M.2.2.1 x1 v i2).1), .int ((lpLG M.2.2.1 x1 v i2).2), .ref (a 6), .ref (a 7), .int (M.1 4), .int (M.1 5), .int (M.1 6), .long M.2.1])), (a 1, .inl (eJ E, 68, .inr (.inl M.2.2.1))), (a 2, .inl (eJ E, 68, .inr (.inl M.2.2.2.1))), (a 3, .inl (eJ E, 340, .inr (.inl M.2.2.2.2.1))), (a 4, .inl (eI E, 3, .inl M.2.2.2.2.2.1)), (a 5, .inl (eI E, 120, .inl M.2.2.2.2.2.2.1)), (a 6, .inl (eI E, 60, .inl M.2.2.2.2.2.2.2.1)), (a 7, .inl (eI E, 120, .inl M.2.2.2.2.2.2.2.2))]) (pre := []) (post := []) (As := [.int (nI i2)]) (rest := []) (q0 := 0) ⟨hx, hb, hml, hown, hts⟩ hr13 (cwV 1 hts gX6_turns_X6_voltsAt rfl rfl rfl qvX6_voltsAt ⟨Nat.le_of_ble_eq_true rfl, Nat.le_of_ble_eq_true rfl⟩) hK hP hD hS hA rfl rfl rfl rfl rfl hl.1 rfl (Nat.le_of_ble_eq_true rfl) dX6_turns_32 ⟨Nat.zero_le _, Nat.zero_le _⟩ (fun H locs hP hD hS => ?_)
      refine lv_istore (lv' := [(4, .int r13), (0, .ref (a 0)), (1, .int v), (2, .int x1), (3, .int (nI i2))]) (pc := 35) hx hb dX6_turns_35 hl (by decide) rfl (fun ls hl => ?_)
      refine lv_aload_n (pc := 37) hx hb dX6_turns_37 rfl (lv_at hl 1 rfl) ?_
      refine lv_aload_n (pc := 38) hx hb dX6_turns_38 rfl (lv_at hl 1 rfl) ?_
      refine g_get (v := .int ((lpLG M.2.2.1 x1 v i2).1)) (pc := 39) hx hb hts ii_X6_turns_X6 hown hK.1 hP 0 rfl rfl 7 (by decide) ⟨rfl, rfl, rfl⟩ mm_X6_turns_3 rfl dX6_turns_39 ?_
      refine lv_ldc (v := (-10000001)) (pc := 42) hx hb hown (hts _ mm_X6_turns_2) dX6_turns_42 ?_
      have J_16 : ∀ (H : Heap) (locs : List Loc) (ls : Array Slot) (x15 : Int32), (if ((lpLG M.2.2.1 x1 v i2).1) = (-10000001) then (if (r13 + x1) < v then ((lpLG M.2.2.1 x1 v i2).1) else (nI i2)) else ((lpLG M.2.2.1 x1 v i2).1)) = x15 → va_P E.1 vwCl [(a 0, .inr (6, [.ref (a 1), .ref (a 2), .ref (a 3), .int (M.1 0), .ref (a 4), .ref (a 5), .int (M.1 1), .int ((lpLG M.2.2.1 x1 v i2).1), .int ((lpLG M.2.2.1 x1 v i2).2), .ref (a 6), .ref (a 7), .int (M.1 4), .int (M.1 5), .int (M.1 6), .long M.2.1])), (a 1, .inl (eJ E, 68, .inr (.inl M.2.2.1))), (a 2, .inl (eJ E, 68, .inr (.inl M.2.2.2.1))), (a 3, .inl (eJ E, 340, .inr (.inl M.2.2.2.2.1))), (a 4, .inl (eI E, 3, .inl M.2.2.2.2.2.1)), (a 5, .inl (eI E, 120, .inl M.2.2.2.2.2.2.1)), (a 6, .inl (eI E, 60, .inl M.2.2.2.2.2.2.2.1)), (a 7, .inl (eI E, 120, .inl M.2.2.2.2.2.2.2.2))] H → va_D A [(a 0, .inr (6, [.ref (a 1), .ref (a 2), .ref (a 3), .int (M.1 0), .ref (a 4), .ref (a 5), .int (M.1 1), .int ((lpLG M.2.2.1 x1 v i2).1), .int ((lpLG M.2.2.1 x1 v i2).2), .ref (a 6), .ref (a 7), .int (M.1 4), .int (M.1 5), .int (M.1 6), .long M.2.1])), (a 1, .inl (eJ E, 68, .inr (.inl M.2.2.1))), (a 2, .inl (eJ E, 68, .inr (.inl M.2.2.2.1))), (a 3, .inl (eJ E, 340, .inr (.inl M.2.2.2.2.1))), (a 4, .inl (eI E, 3, .inl M.2.2.2.2.2.1)), (a 5, .inl (eI E, 120, .inl M.2.2.2.2.2.2.1)), (a 6, .inl (eI E, 60, .inl M.2.2.2.2.2.2.2.1)), (a 7, .inl (eI E, 120, .inl M.2.2.2.2.2.2.2.2))] → va_S A s.heap H locs → lv_has ls 5 [(0, .ref (a 0)), (1, .int v), (2, .int x1), (3, .int (nI i2)), (4, .int r13)] → W p l e rX6_turns s m args below meth c H locs 0 0 Q (F0 m 63 ls [.int x15, .ref (a 0)]) := by
        intro H locs ls x15 ex15 hP hD hS hl
        refine g_put (w1 := [(a 0, .inr (6, [.ref (a 1), .ref (a 2), .ref (a 3), .int (M.1 0), .ref (a 4), .ref (a 5), .int (M.1 1), .int x15, .int ((lpLG M.2.2.1 x1 v i2).2), .ref (a 6), .ref (a 7), .int (M.1 4), .int (M.1 5), .int (M.1 6), .long M.2.1])), (a 1, .inl (eJ E, 68, .inr (.inl M.2.2.1))), (a 2, .inl (eJ E, 68, .inr (.inl M.2.2.2.1))), (a 3, .inl (eJ E, 340, .inr (.inl M.2.2.2.2.1))), (a 4, .inl (eI E, 3, .inl M.2.2.2.2.2.1)), (a 5, .inl (eI E, 120, .inl M.2.2.2.2.2.2.1)), (a 6, .inl (eI E, 60, .inl M.2.2.2.2.2.2.2.1)), (a 7, .inl (eI E, 120, .inl M.2.2.2.2.2.2.2.2))]) (pc := 63) hx hb hts ii_X6_turns_X6 tyX6 tyX6_ok nmX6 hown hK.1 hP hD hS 0 rfl rfl 7 (by decide) ⟨rfl, rfl, rfl⟩ mm_X6_turns_3 rfl rfl rfl rfl (Nat.le_of_ble_eq_true rfl) rfl dX6_turns_63 (fun H locs hP hD hS => ?_)
        refine lv_aload_n (pc := 66) hx hb dX6_turns_66 rfl (lv_at hl 0 rfl) ?_
        refine lv_iload (pc := 67) hx hb dX6_turns_67 (lv_at hl 4 rfl) ?_
        refine lv_iload_n (pc := 69) hx hb dX6_turns_69 rfl (lv_at hl 2 rfl) ?_
        refine lv_isub (pc := 70) hx hb dX6_turns_70 ?_
        refine lv_iload_n (pc := 71) hx hb dX6_turns_71 rfl (lv_at hl 1 rfl) ?_
        have J_19 : ∀ (H : Heap) (locs : List Loc) (ls : Array Slot) (x18 : Int32), (if v < (r13 - x1) then ((lpLG M.2.2.1 x1 v i2).2) else (nI i2)) = x18 → va_P E.1 vwCl [(a 0, .inr (6, [.ref (a 1), .ref (a 2), .ref (a 3), .int (M.1 0), .ref (a 4), .ref (a 5), .int (M.1 1), .int x15, .int ((lpLG M.2.2.1 x1 v i2).2), .ref (a 6), .ref (a 7), .int (M.1 4), .int (M.1 5), .int (M.1 6), .long M.2.1])), (a 1, .inl (eJ E, 68, .inr (.inl M.2.2.1))), (a 2, .inl (eJ E, 68, .inr (.inl M.2.2.2.1))), (a 3, .inl (eJ E, 340, .inr (.inl M.2.2.2.2.1))), (a 4, .inl (eI E, 3, .inl M.2.2.2.2.2.1)), (a 5, .inl (eI E, 120, .inl M.2.2.2.2.2.2.1)), (a 6, .inl (eI E, 60, .inl M.2.2.2.2.2.2.2.1)), (a 7, .inl (eI E, 120, .inl M.2.2.2.2.2.2.2.2))] H → va_D A [(a 0, .inr (6, [.ref (a 1), .ref (a 2), .ref (a 3), .int (M.1 0), .ref (a 4), .ref (a 5), .int (M.1 1), .int x15, .int ((lpLG M.2.2.1 x1 v i2).2), .ref (a 6), .ref (a 7), .int (M.1 4), .int (M.1 5), .int (M.1 6), .long M.2.1])), (a 1, .inl (eJ E, 68, .inr (.inl M.2.2.1))), (a 2, .inl (eJ E, 68, .inr (.inl M.2.2.2.1))), (a 3, .inl (eJ E, 340, .inr (.inl M.2.2.2.2.1))), (a 4, .inl (eI E, 3, .inl M.2.2.2.2.2.1)), (a 5, .inl (eI E, 120, .inl M.2.2.2.2.2.2.1)), (a 6, .inl (eI E, 60, .inl M.2.2.2.2.2.2.2.1)), (a 7, .inl (eI E, 120, .inl M.2.2.2.2.2.2.2.2))] → va_S A s.heap H locs → lv_has ls 5 [(0, .ref (a 0)), (1, .int v), (2, .int x1), (3, .int (nI i2)), (4, .int r13)] → W p l e rX6_turns s m args below meth c H locs 0 0 Q (F0 m 83 ls [.int x18, .ref (a 0)]) := by
          intro H locs ls x18 ex18 hP hD hS hl
          refine g_put (w1 := [(a 0, .inr (6, [.ref (a 1), .ref (a 2), .ref (a 3), .int (M.1 0), .ref (a 4), .ref (a 5), .int (M.1 1), .int x15, .int x18, .ref (a 6), .ref (a 7), .int (M.1 4), .int (M.1 5), .int (M.1 6), .long M.2.1])), (a 1, .inl (eJ E, 68, .inr (.inl M.2.2.1))), (a 2, .inl (eJ E, 68, .inr (.inl M.2.2.2.1))), (a 3, .inl (eJ E, 340, .inr (.inl M.2.2.2.2.1))), (a 4, .inl (eI E, 3, .inl M.2.2.2.2.2.1)), (a 5, .inl (eI E, 120, .inl M.2.2.2.2.2.2.1)), (a 6, .inl (eI E, 60, .inl M.2.2.2.2.2.2.2.1)), (a 7, .inl (eI E, 120, .inl M.2.2.2.2.2.2.2.2))]) (pc := 83) hx hb hts ii_X6_turns_X6 tyX6 tyX6_ok nmX6 hown hK.1 hP hD hS 0 rfl rfl 8 (by decide) ⟨rfl, rfl, rfl⟩ mm_X6_turns_4 rfl rfl rfl rfl (Nat.le_of_ble_eq_true rfl) rfl dX6_turns_83 (fun H locs hP hD hS => ?_)
          refine lv_iinc (v := nI (i2 + 1)) (lv' := [(3, .int (nI (i2 + 1))), (0, .ref (a 0)), (1, .int v), (2, .int x1), (4, .int r13)]) (pc := 86) hx hb dX6_turns_86 hl (k := 3) rfl (nI_1 i2) (by decide) rfl (fun ls hl => ?_)
          refine lv_goto (tgt := 23) (pc := 89) hx hb dX6_turns_89 (by decide) ?_
          subst ex18
          subst ex15
          subst er13
          exact ih4 (i2 + 1) (by omega) _ _ _ (by rw [lpLG_s]; exact hP) (by rw [lpLG_s]; exact hD) hS (lv_sub hl [1, 2, 3, 0] rfl)
        refine lv_icmp_gt (tgt := 79) (pc := 72) hx hb dX6_turns_72 (by decide) (fun c_17 => ?_) (fun c_17 => ?_)
        · refine lv_aload_n (pc := 79) hx hb dX6_turns_79 rfl (lv_at hl 0 rfl) ?_
          refine g_get (v := .int ((lpLG M.2.2.1 x1 v i2).2)) (pc := 80) hx hb hts ii_X6_turns_X6 hown hK.1 hP 0 rfl rfl 8 (by decide) ⟨rfl, rfl, rfl⟩ mm_X6_turns_4 rfl dX6_turns_80 ?_
          exact J_19 _ _ _ _ (if_pos c_17) hP hD hS (lv_sub hl [0, 1, 2, 3, 4] rfl)
        · refine lv_iload_n (pc := 75) hx hb dX6_turns_75 rfl (lv_at hl 3 rfl) ?_
          refine lv_goto (tgt := 83) (pc := 76) hx hb dX6_turns_76 (by decide) ?_
          exact J_19 _ _ _ _ (if_neg c_17) hP hD hS (lv_sub hl [0, 1, 2, 3, 4] rfl)
      refine lv_icmp_ne (tgt := 59) (pc := 44) hx hb dX6_turns_44 (by decide) (fun c_14 => ?_) (fun c_14 => ?_)
      · refine lv_aload_n (pc := 59) hx hb dX6_turns_59 rfl (lv_at hl 1 rfl) ?_
        refine g_get (v := .int ((lpLG M.2.2.1 x1 v i2).1)) (pc := 60) hx hb hts ii_X6_turns_X6 hown hK.1 hP 0 rfl rfl 7 (by decide) ⟨rfl, rfl, rfl⟩ mm_X6_turns_3 rfl dX6_turns_60 ?_
        exact J_16 _ _ _ _ (if_neg c_14) hP hD hS (lv_sub hl [1, 2, 3, 4, 0] rfl)
      · refine lv_iload (pc := 47) hx hb dX6_turns_47 (lv_at hl 0 rfl) ?_
        refine lv_iload_n (pc := 49) hx hb dX6_turns_49 rfl (lv_at hl 3 rfl) ?_
        refine lv_iadd (pc := 50) hx hb dX6_turns_50 ?_
        refine lv_iload_n (pc := 51) hx hb dX6_turns_51 rfl (lv_at hl 2 rfl) ?_
        refine lv_icmp_lt (tgt := 59) (pc := 52) hx hb dX6_turns_52 (by decide) (fun c_15 => ?_) (fun c_15 => ?_)
        · refine lv_aload_n (pc := 59) hx hb dX6_turns_59 rfl (lv_at hl 1 rfl) ?_
          refine g_get (v := .int ((lpLG M.2.2.1 x1 v i2).1)) (pc := 60) hx hb hts ii_X6_turns_X6 hown hK.1 hP 0 rfl rfl 7 (by decide) ⟨rfl, rfl, rfl⟩ mm_X6_turns_3 rfl dX6_turns_60 ?_
          exact J_16 _ _ _ _ ((if_pos c_14).trans (if_pos c_15)) hP hD hS (lv_sub hl [1, 2, 3, 4, 0] rfl)
        · refine lv_iload_n (pc := 55) hx hb dX6_turns_55 rfl (lv_at hl 4 rfl) ?_
          refine lv_goto (tgt := 63) (pc := 56) hx hb dX6_turns_56 (by decide) ?_
          exact J_16 _ _ _ _ ((if_pos c_14).trans (if_neg c_15)) hP hD hS (lv_sub hl [1, 2, 3, 4, 0] rfl)
  exact loop5 1001 0 (by decide) _ _ _ (by rw [lpLG_0]; exact hP) (by rw [lpLG_0]; exact hD) hS (lv_sub hl [2, 3, 1, 0] rfl)

def fX6_middle (W : Nat → Int64) : Int32 :=
  let x1 : Int64 := (W 2) + (W 3)
  if x1 = 0 then
    0
  else
    let x3 : Int64 := (1000 * ((W 0) + (W 1))) / x1
    let x5 : Int32 := (if x3 ≤ 1000 then x3.toInt32 else 1000)
    x5
abbrev rX6_middle : Room := { frames := 0, cells := 0, slots := 0, locals := 0 }
theorem mm_X6_middle_1 : Cond.fieldLink RX6 7 "GaugeBoundsModel" "now" "[J" ∈ wsX6_middle := List.mem_of_getElem? (i := 1) rfl
theorem mm_X6_middle_2 : Cond.constantLong RX6 32 (1000) ∈ wsX6_middle := List.mem_of_getElem? (i := 2) rfl
theorem ii_X6_middle_X6 : ∀ w ∈ wsX60, w ∈ wsX6_middle := fun _ h => List.mem_cons_of_mem _ (List.mem_append_right _ (h))
theorem qvX6_middle : yX6_middle.cls = RX6 ∧ yX6_middle.cls ≠ "java/lang/invoke/MethodHandle" ∧ yX6_middle.cls ≠ "java/lang/invoke/VarHandle" ∧ (parseMethodDescriptor yX6_middle.desc).map (fun d => d.parameters.length) = some 0 := by decide +kernel
set_option maxHeartbeats 4000000 in
set_option maxRecDepth 100000 in
theorem kX6_middle (l : Launch) (E : gEnv) (a : Nat → Nat) (M : Mdl) : gMi l E yX6_middle wsX6_middle rX6_middle [.ref (a 0)] (wM E a M) (fX6_middle M.2.2.1) (wM E a M) := by
  refine gMi_of (cc := cX6_middle) (maxL := 5) (ret := (some .int)) (by decide) rfl rfl (Nat.le_of_ble_eq_true rfl) ?_
  intro p e s m args below meth c A Q ls hB hQ
  obtain ⟨hx, hb, hml, hown, hts, hK, hP, hD, hA, hS, hl⟩ := hB
  have hown : s.vm.findClass RX6 = some m.cls := hown
  have hP : va_P E.1 vwCl [(a 0, .inr (6, [.ref (a 1), .ref (a 2), .ref (a 3), .int (M.1 0), .ref (a 4), .ref (a 5), .int (M.1 1), .int (M.1 2), .int (M.1 3), .ref (a 6), .ref (a 7), .int (M.1 4), .int (M.1 5), .int (M.1 6), .long M.2.1])), (a 1, .inl (eJ E, 68, .inr (.inl M.2.2.1))), (a 2, .inl (eJ E, 68, .inr (.inl M.2.2.2.1))), (a 3, .inl (eJ E, 340, .inr (.inl M.2.2.2.2.1))), (a 4, .inl (eI E, 3, .inl M.2.2.2.2.2.1)), (a 5, .inl (eI E, 120, .inl M.2.2.2.2.2.2.1)), (a 6, .inl (eI E, 60, .inl M.2.2.2.2.2.2.2.1)), (a 7, .inl (eI E, 120, .inl M.2.2.2.2.2.2.2.2))] s.heap := hP
  have hD : va_D A [(a 0, .inr (6, [.ref (a 1), .ref (a 2), .ref (a 3), .int (M.1 0), .ref (a 4), .ref (a 5), .int (M.1 1), .int (M.1 2), .int (M.1 3), .ref (a 6), .ref (a 7), .int (M.1 4), .int (M.1 5), .int (M.1 6), .long M.2.1])), (a 1, .inl (eJ E, 68, .inr (.inl M.2.2.1))), (a 2, .inl (eJ E, 68, .inr (.inl M.2.2.2.1))), (a 3, .inl (eJ E, 340, .inr (.inl M.2.2.2.2.1))), (a 4, .inl (eI E, 3, .inl M.2.2.2.2.2.1)), (a 5, .inl (eI E, 120, .inl M.2.2.2.2.2.2.1)), (a 6, .inl (eI E, 60, .inl M.2.2.2.2.2.2.2.1)), (a 7, .inl (eI E, 120, .inl M.2.2.2.2.2.2.2.2))] := hD
  have hl : lv_has ls 5 [(0, .ref (a 0))] := hl
  refine lv_aload_n (pc := 0) hx hb dX6_middle_0 rfl (lv_at hl 0 rfl) ?_
  refine g_get (v := .ref (a 1)) (pc := 1) hx hb hts ii_X6_middle_X6 hown hK.1 hP 0 rfl rfl 0 (by decide) ⟨rfl, rfl, rfl⟩ mm_X6_middle_1 rfl dX6_middle_1 ?_
  refine lv_iconst (v := 2) (pc := 4) hx hb dX6_middle_4 rfl ?_
  refine g_lald (j := 2) (v := (M.2.2.1 2)) (pc := 5) hx hb hK.1 hP 1 1 rfl rfl (g_in (by decide +kernel)) rfl rfl dX6_middle_5 ?_
  refine lv_aload_n (pc := 6) hx hb dX6_middle_6 rfl (lv_at hl 0 rfl) ?_
  refine g_get (v := .ref (a 1)) (pc := 7) hx hb hts ii_X6_middle_X6 hown hK.1 hP 0 rfl rfl 0 (by decide) ⟨rfl, rfl, rfl⟩ mm_X6_middle_1 rfl dX6_middle_7 ?_
  refine lv_iconst (v := 3) (pc := 10) hx hb dX6_middle_10 rfl ?_
  refine g_lald (j := 3) (v := (M.2.2.1 3)) (pc := 11) hx hb hK.1 hP 1 1 rfl rfl (g_in (by decide +kernel)) rfl rfl dX6_middle_11 ?_
  refine lv_ladd (pc := 12) hx hb dX6_middle_12 ?_
  refine g_topl (fun x1 ex1 => ?_)
  refine lv_lstore_n (lv' := [(1, .long x1), (0, .ref (a 0))]) (pc := 13) hx hb dX6_middle_13 rfl hl (by decide) rfl (fun ls hl => ?_)
  refine lv_lload_n (pc := 14) hx hb dX6_middle_14 rfl (lv_at hl 0 rfl) ?_
  refine lv_lconst (v := 0) (pc := 15) hx hb dX6_middle_15 rfl ?_
  refine gl_ne (tgt := 22) (pc := 16) hx hb dX6_middle_16 dX6_middle_17 rfl (fun c_2 => ?_) (fun c_2 => ?_)
  · refine lv_ldc2 (v := (1000)) (pc := 22) hx hb hown (hts _ mm_X6_middle_2) dX6_middle_22 ?_
    refine lv_aload_n (pc := 25) hx hb dX6_middle_25 rfl (lv_at hl 1 rfl) ?_
    refine g_get (v := .ref (a 1)) (pc := 26) hx hb hts ii_X6_middle_X6 hown hK.1 hP 0 rfl rfl 0 (by decide) ⟨rfl, rfl, rfl⟩ mm_X6_middle_1 rfl dX6_middle_26 ?_
    refine lv_iconst (v := 0) (pc := 29) hx hb dX6_middle_29 rfl ?_
    refine g_lald (j := 0) (v := (M.2.2.1 0)) (pc := 30) hx hb hK.1 hP 1 1 rfl rfl (g_in (by decide +kernel)) rfl rfl dX6_middle_30 ?_
    refine lv_aload_n (pc := 31) hx hb dX6_middle_31 rfl (lv_at hl 1 rfl) ?_
    refine g_get (v := .ref (a 1)) (pc := 32) hx hb hts ii_X6_middle_X6 hown hK.1 hP 0 rfl rfl 0 (by decide) ⟨rfl, rfl, rfl⟩ mm_X6_middle_1 rfl dX6_middle_32 ?_
    refine lv_iconst (v := 1) (pc := 35) hx hb dX6_middle_35 rfl ?_
    refine g_lald (j := 1) (v := (M.2.2.1 1)) (pc := 36) hx hb hK.1 hP 1 1 rfl rfl (g_in (by decide +kernel)) rfl rfl dX6_middle_36 ?_
    refine lv_ladd (pc := 37) hx hb dX6_middle_37 ?_
    refine lv_lmul (pc := 38) hx hb dX6_middle_38 ?_
    refine lv_lload_n (pc := 39) hx hb dX6_middle_39 rfl (lv_at hl 0 rfl) ?_
    refine lv_ldiv (pc := 40) hx hb dX6_middle_40 c_2 ?_
    refine g_topl (fun x3 ex3 => ?_)
    refine lv_lstore_n (lv' := [(3, .long x3), (1, .long x1), (0, .ref (a 0))]) (pc := 41) hx hb dX6_middle_41 rfl hl (by decide) rfl (fun ls hl => ?_)
    refine lv_lload_n (pc := 42) hx hb dX6_middle_42 rfl (lv_at hl 0 rfl) ?_
    refine lv_ldc2 (v := (1000)) (pc := 43) hx hb hown (hts _ mm_X6_middle_2) dX6_middle_43 ?_
    have J_6 : ∀ (H : Heap) (locs : List Loc) (ls : Array Slot) (x5 : Int32), (if x3 ≤ 1000 then x3.toInt32 else 1000) = x5 → va_P E.1 vwCl [(a 0, .inr (6, [.ref (a 1), .ref (a 2), .ref (a 3), .int (M.1 0), .ref (a 4), .ref (a 5), .int (M.1 1), .int (M.1 2), .int (M.1 3), .ref (a 6), .ref (a 7), .int (M.1 4), .int (M.1 5), .int (M.1 6), .long M.2.1])), (a 1, .inl (eJ E, 68, .inr (.inl M.2.2.1))), (a 2, .inl (eJ E, 68, .inr (.inl M.2.2.2.1))), (a 3, .inl (eJ E, 340, .inr (.inl M.2.2.2.2.1))), (a 4, .inl (eI E, 3, .inl M.2.2.2.2.2.1)), (a 5, .inl (eI E, 120, .inl M.2.2.2.2.2.2.1)), (a 6, .inl (eI E, 60, .inl M.2.2.2.2.2.2.2.1)), (a 7, .inl (eI E, 120, .inl M.2.2.2.2.2.2.2.2))] H → va_D A [(a 0, .inr (6, [.ref (a 1), .ref (a 2), .ref (a 3), .int (M.1 0), .ref (a 4), .ref (a 5), .int (M.1 1), .int (M.1 2), .int (M.1 3), .ref (a 6), .ref (a 7), .int (M.1 4), .int (M.1 5), .int (M.1 6), .long M.2.1])), (a 1, .inl (eJ E, 68, .inr (.inl M.2.2.1))), (a 2, .inl (eJ E, 68, .inr (.inl M.2.2.2.1))), (a 3, .inl (eJ E, 340, .inr (.inl M.2.2.2.2.1))), (a 4, .inl (eI E, 3, .inl M.2.2.2.2.2.1)), (a 5, .inl (eI E, 120, .inl M.2.2.2.2.2.2.1)), (a 6, .inl (eI E, 60, .inl M.2.2.2.2.2.2.2.1)), (a 7, .inl (eI E, 120, .inl M.2.2.2.2.2.2.2.2))] → va_S A s.heap H locs → lv_has ls 5 [(0, .ref (a 0)), (1, .long x1), (3, .long x3)] → W p l e rX6_middle s m args below meth c H locs 0 0 Q (F0 m 58 ls [.int x5]) := by
      intro H locs ls x5 ex5 hP hD hS hl
      subst ex5
      subst ex3
      subst ex1
      have hfn : fX6_middle M.2.2.1 = _ := if_neg c_2
      rw [hfn] at hQ
      exact hQ _ _ _ _ _ rfl hP hD hS dX6_middle_58
    refine gl_le (tgt := 56) (pc := 46) hx hb dX6_middle_46 dX6_middle_47 rfl (fun c_4 => ?_) (fun c_4 => ?_)
    · refine lv_lload_n (pc := 56) hx hb dX6_middle_56 rfl (lv_at hl 0 rfl) ?_
      refine lv_l2i (v := x3.toInt32) (pc := 57) hx hb dX6_middle_57 rfl ?_
      exact J_6 _ _ _ _ (if_pos c_4) hP hD hS (lv_sub hl [2, 1, 0] rfl)
    · refine lv_sipush (v := 1000) (pc := 50) hx hb dX6_middle_50 rfl ?_
      refine lv_goto (tgt := 58) (pc := 53) hx hb dX6_middle_53 (by decide) ?_
      exact J_6 _ _ _ _ (if_neg c_4) hP hD hS (lv_sub hl [2, 1, 0] rfl)
  · refine lv_iconst (v := 0) (pc := 20) hx hb dX6_middle_20 rfl ?_
    subst ex1
    have hfn : fX6_middle M.2.2.1 = _ := if_pos c_2
    rw [hfn] at hQ
    exact hQ _ _ _ _ _ rfl hP hD hS dX6_middle_21

def fX6_putCapacity (M : Mdl) (lo : Int32) (up : Int32) : Int32 × (Mdl) :=
  let r1 : Int32 := fX6_in lo.toInt64 0 99999
  if r1 = 0 then
    ((-10000002), M)
  else
    let r3 : Int32 := fX6_in up.toInt64 lo.toInt64 99999
    if r3 = 0 then
      ((-10000002), M)
    else
      let x5 : Int32 := (M.2.2.1 2).toInt32
      (x5, (M.1, M.2.1, (lpZ (vp_updL (vp_updL (lpZ (vp_updL (vp_updL (vp_updL (vp_updL (vp_updL M.2.2.1 2 lo.toInt64) 3 up.toInt64) 0 0) 1 up.toInt64) 4 100) 5 4) 9 (-10000001)) 10 (-10000001)) 24 44), M.2.2.2.1, M.2.2.2.2.1, M.2.2.2.2.2.1, M.2.2.2.2.2.2.1, M.2.2.2.2.2.2.2.1, M.2.2.2.2.2.2.2.2))
abbrev rX6_putCapacity : Room := { frames := 1, cells := 0, slots := 0, locals := 25 }
theorem mm_X6_putCapacity_1 : Cond.constantLong RX6 67 (99999) ∈ wsX6_putCapacity := List.mem_of_getElem? (i := 1) rfl
theorem mm_X6_putCapacity_2 : Cond.constant RX6 44 (-10000002) ∈ wsX6_putCapacity := List.mem_of_getElem? (i := 2) rfl
theorem mm_X6_putCapacity_3 : Cond.fieldLink RX6 7 "GaugeBoundsModel" "now" "[J" ∈ wsX6_putCapacity := List.mem_of_getElem? (i := 3) rfl
theorem mm_X6_putCapacity_4 : Cond.constantLong RX6 36 (100) ∈ wsX6_putCapacity := List.mem_of_getElem? (i := 4) rfl
theorem mm_X6_putCapacity_5 : Cond.constantLong RX6 38 (-10000001) ∈ wsX6_putCapacity := List.mem_of_getElem? (i := 5) rfl
theorem ii_X6_putCapacity_X6 : ∀ w ∈ wsX60, w ∈ wsX6_putCapacity := fun _ h => List.mem_cons_of_mem _ (List.mem_append_right _ (h))
theorem qvX6_putCapacity : yX6_putCapacity.cls = RX6 ∧ yX6_putCapacity.cls ≠ "java/lang/invoke/MethodHandle" ∧ yX6_putCapacity.cls ≠ "java/lang/invoke/VarHandle" ∧ (parseMethodDescriptor yX6_putCapacity.desc).map (fun d => d.parameters.length) = some 2 := by decide +kernel
set_option maxHeartbeats 4000000 in
set_option maxRecDepth 100000 in
theorem kX6_putCapacity (l : Launch) (E : gEnv) (a : Nat → Nat) (M : Mdl) (lo : Int32) (up : Int32) : gMi l E yX6_putCapacity wsX6_putCapacity rX6_putCapacity [.ref (a 0), .int lo, .int up] (wM E a M) (fX6_putCapacity M lo up).1 (wM E a ((fX6_putCapacity M lo up).2)) := by
  refine gMi_of (cc := cX6_putCapacity) (maxL := 5) (ret := (some .int)) (by decide) rfl rfl (Nat.le_of_ble_eq_true rfl) ?_
  intro p e s m args below meth c A Q ls hB hQ
  obtain ⟨hx, hb, hml, hown, hts, hK, hP, hD, hA, hS, hl⟩ := hB
  have hown : s.vm.findClass RX6 = some m.cls := hown
  have hP : va_P E.1 vwCl [(a 0, .inr (6, [.ref (a 1), .ref (a 2), .ref (a 3), .int (M.1 0), .ref (a 4), .ref (a 5), .int (M.1 1), .int (M.1 2), .int (M.1 3), .ref (a 6), .ref (a 7), .int (M.1 4), .int (M.1 5), .int (M.1 6), .long M.2.1])), (a 1, .inl (eJ E, 68, .inr (.inl M.2.2.1))), (a 2, .inl (eJ E, 68, .inr (.inl M.2.2.2.1))), (a 3, .inl (eJ E, 340, .inr (.inl M.2.2.2.2.1))), (a 4, .inl (eI E, 3, .inl M.2.2.2.2.2.1)), (a 5, .inl (eI E, 120, .inl M.2.2.2.2.2.2.1)), (a 6, .inl (eI E, 60, .inl M.2.2.2.2.2.2.2.1)), (a 7, .inl (eI E, 120, .inl M.2.2.2.2.2.2.2.2))] s.heap := hP
  have hD : va_D A [(a 0, .inr (6, [.ref (a 1), .ref (a 2), .ref (a 3), .int (M.1 0), .ref (a 4), .ref (a 5), .int (M.1 1), .int (M.1 2), .int (M.1 3), .ref (a 6), .ref (a 7), .int (M.1 4), .int (M.1 5), .int (M.1 6), .long M.2.1])), (a 1, .inl (eJ E, 68, .inr (.inl M.2.2.1))), (a 2, .inl (eJ E, 68, .inr (.inl M.2.2.2.1))), (a 3, .inl (eJ E, 340, .inr (.inl M.2.2.2.2.1))), (a 4, .inl (eI E, 3, .inl M.2.2.2.2.2.1)), (a 5, .inl (eI E, 120, .inl M.2.2.2.2.2.2.1)), (a 6, .inl (eI E, 60, .inl M.2.2.2.2.2.2.2.1)), (a 7, .inl (eI E, 120, .inl M.2.2.2.2.2.2.2.2))] := hD
  have hl : lv_has ls 5 [(0, .ref (a 0)), (1, .int lo), (2, .int up)] := hl
  refine lv_iload_n (pc := 0) hx hb dX6_putCapacity_0 rfl (lv_at hl 1 rfl) ?_
  refine lv_i2l (v := lo.toInt64) (pc := 1) hx hb dX6_putCapacity_1 rfl ?_
  refine lv_lconst (v := 0) (pc := 2) hx hb dX6_putCapacity_2 rfl ?_
  refine lv_ldc2 (v := (99999)) (pc := 3) hx hb hown (hts _ mm_X6_putCapacity_1) dX6_putCapacity_3 ?_
  obtain ⟨r1, er1⟩ : ∃ z : Int32, fX6_in lo.toInt64 0 99999 = z := ⟨_, rfl⟩
  have hr1 := kX6_in l E lo.toInt64 0 99999
  rw [er1] at hr1
  refine gcSi (pc := 6) (As := [.long lo.toInt64, .long 0, .long 99999]) (rest := []) ⟨hx, hb, hml, hown, hts⟩ hr1 (cwS 3 hts gX6_putCapacity_X6_in rfl rfl rfl qsX6_in ⟨Nat.le_of_ble_eq_true rfl, Nat.le_of_ble_eq_true rfl⟩) hK hP hD hS hA rfl hl.1 rfl (Nat.le_of_ble_eq_true rfl) dX6_putCapacity_6 ⟨Nat.zero_le _, Nat.zero_le _⟩ (fun H locs hP hD hS => ?_)
  refine lv_if_eq (tgt := 25) (pc := 9) hx hb dX6_putCapacity_9 (by decide) (fun c_2 => ?_) (fun c_2 => ?_)
  · refine lv_ldc (v := (-10000002)) (pc := 25) hx hb hown (hts _ mm_X6_putCapacity_2) dX6_putCapacity_25 ?_
    subst er1
    have hfn : fX6_putCapacity M lo up = _ := if_pos c_2
    rw [hfn] at hQ
    exact hQ _ _ _ _ _ rfl hP hD hS dX6_putCapacity_27
  · refine lv_iload_n (pc := 12) hx hb dX6_putCapacity_12 rfl (lv_at hl 2 rfl) ?_
    refine lv_i2l (v := up.toInt64) (pc := 13) hx hb dX6_putCapacity_13 rfl ?_
    refine lv_iload_n (pc := 14) hx hb dX6_putCapacity_14 rfl (lv_at hl 1 rfl) ?_
    refine lv_i2l (v := lo.toInt64) (pc := 15) hx hb dX6_putCapacity_15 rfl ?_
    refine lv_ldc2 (v := (99999)) (pc := 16) hx hb hown (hts _ mm_X6_putCapacity_1) dX6_putCapacity_16 ?_
    obtain ⟨r3, er3⟩ : ∃ z : Int32, fX6_in up.toInt64 lo.toInt64 99999 = z := ⟨_, rfl⟩
    have hr3 := kX6_in l E up.toInt64 lo.toInt64 99999
    rw [er3] at hr3
    refine gcSi (pc := 19) (As := [.long up.toInt64, .long lo.toInt64, .long 99999]) (rest := []) ⟨hx, hb, hml, hown, hts⟩ hr3 (cwS 3 hts gX6_putCapacity_X6_in rfl rfl rfl qsX6_in ⟨Nat.le_of_ble_eq_true rfl, Nat.le_of_ble_eq_true rfl⟩) hK hP hD hS hA rfl hl.1 rfl (Nat.le_of_ble_eq_true rfl) dX6_putCapacity_19 ⟨Nat.zero_le _, Nat.zero_le _⟩ (fun H locs hP hD hS => ?_)
    refine lv_if_ne (tgt := 28) (pc := 22) hx hb dX6_putCapacity_22 (by decide) (fun c_4 => ?_) (fun c_4 => ?_)
    · refine lv_aload_n (pc := 28) hx hb dX6_putCapacity_28 rfl (lv_at hl 0 rfl) ?_
      refine g_get (v := .ref (a 1)) (pc := 29) hx hb hts ii_X6_putCapacity_X6 hown hK.1 hP 0 rfl rfl 0 (by decide) ⟨rfl, rfl, rfl⟩ mm_X6_putCapacity_3 rfl dX6_putCapacity_29 ?_
      refine lv_iconst (v := 2) (pc := 32) hx hb dX6_putCapacity_32 rfl ?_
      refine g_lald (j := 2) (v := (M.2.2.1 2)) (pc := 33) hx hb hK.1 hP 1 1 rfl rfl (g_in (by decide +kernel)) rfl rfl dX6_putCapacity_33 ?_
      refine lv_l2i (v := (M.2.2.1 2).toInt32) (pc := 34) hx hb dX6_putCapacity_34 rfl ?_
      refine g_topi (fun x5 ex5 => ?_)
      refine lv_istore_n (lv' := [(3, .int x5), (0, .ref (a 0)), (1, .int lo), (2, .int up)]) (pc := 35) hx hb dX6_putCapacity_35 rfl hl (by decide) rfl (fun ls hl => ?_)
      refine lv_aload_n (pc := 36) hx hb dX6_putCapacity_36 rfl (lv_at hl 1 rfl) ?_
      refine g_get (v := .ref (a 1)) (pc := 37) hx hb hts ii_X6_putCapacity_X6 hown hK.1 hP 0 rfl rfl 0 (by decide) ⟨rfl, rfl, rfl⟩ mm_X6_putCapacity_3 rfl dX6_putCapacity_37 ?_
      refine lv_iconst (v := 2) (pc := 40) hx hb dX6_putCapacity_40 rfl ?_
      refine lv_iload_n (pc := 41) hx hb dX6_putCapacity_41 rfl (lv_at hl 2 rfl) ?_
      refine lv_i2l (v := lo.toInt64) (pc := 42) hx hb dX6_putCapacity_42 rfl ?_
      refine g_last (j := 2) (w1 := [(a 0, .inr (6, [.ref (a 1), .ref (a 2), .ref (a 3), .int (M.1 0), .ref (a 4), .ref (a 5), .int (M.1 1), .int (M.1 2), .int (M.1 3), .ref (a 6), .ref (a 7), .int (M.1 4), .int (M.1 5), .int (M.1 6), .long M.2.1])), (a 1, .inl (eJ E, 68, .inr (.inl (vp_updL M.2.2.1 2 lo.toInt64)))), (a 2, .inl (eJ E, 68, .inr (.inl M.2.2.2.1))), (a 3, .inl (eJ E, 340, .inr (.inl M.2.2.2.2.1))), (a 4, .inl (eI E, 3, .inl M.2.2.2.2.2.1)), (a 5, .inl (eI E, 120, .inl M.2.2.2.2.2.2.1)), (a 6, .inl (eI E, 60, .inl M.2.2.2.2.2.2.2.1)), (a 7, .inl (eI E, 120, .inl M.2.2.2.2.2.2.2.2))]) (pc := 43) hx hb hK.1 hP hD hS 1 1 rfl rfl (g_in (by decide +kernel)) rfl rfl dX6_putCapacity_43 (fun H locs hP hD hS => ?_)
      refine lv_aload_n (pc := 44) hx hb dX6_putCapacity_44 rfl (lv_at hl 1 rfl) ?_
      refine g_get (v := .ref (a 1)) (pc := 45) hx hb hts ii_X6_putCapacity_X6 hown hK.1 hP 0 rfl rfl 0 (by decide) ⟨rfl, rfl, rfl⟩ mm_X6_putCapacity_3 rfl dX6_putCapacity_45 ?_
      refine lv_iconst (v := 3) (pc := 48) hx hb dX6_putCapacity_48 rfl ?_
      refine lv_iload_n (pc := 49) hx hb dX6_putCapacity_49 rfl (lv_at hl 3 rfl) ?_
      refine lv_i2l (v := up.toInt64) (pc := 50) hx hb dX6_putCapacity_50 rfl ?_
      refine g_last (j := 3) (w1 := [(a 0, .inr (6, [.ref (a 1), .ref (a 2), .ref (a 3), .int (M.1 0), .ref (a 4), .ref (a 5), .int (M.1 1), .int (M.1 2), .int (M.1 3), .ref (a 6), .ref (a 7), .int (M.1 4), .int (M.1 5), .int (M.1 6), .long M.2.1])), (a 1, .inl (eJ E, 68, .inr (.inl (vp_updL (vp_updL M.2.2.1 2 lo.toInt64) 3 up.toInt64)))), (a 2, .inl (eJ E, 68, .inr (.inl M.2.2.2.1))), (a 3, .inl (eJ E, 340, .inr (.inl M.2.2.2.2.1))), (a 4, .inl (eI E, 3, .inl M.2.2.2.2.2.1)), (a 5, .inl (eI E, 120, .inl M.2.2.2.2.2.2.1)), (a 6, .inl (eI E, 60, .inl M.2.2.2.2.2.2.2.1)), (a 7, .inl (eI E, 120, .inl M.2.2.2.2.2.2.2.2))]) (pc := 51) hx hb hK.1 hP hD hS 1 1 rfl rfl (g_in (by decide +kernel)) rfl rfl dX6_putCapacity_51 (fun H locs hP hD hS => ?_)
      refine lv_aload_n (pc := 52) hx hb dX6_putCapacity_52 rfl (lv_at hl 1 rfl) ?_
      refine g_get (v := .ref (a 1)) (pc := 53) hx hb hts ii_X6_putCapacity_X6 hown hK.1 hP 0 rfl rfl 0 (by decide) ⟨rfl, rfl, rfl⟩ mm_X6_putCapacity_3 rfl dX6_putCapacity_53 ?_
      refine lv_iconst (v := 0) (pc := 56) hx hb dX6_putCapacity_56 rfl ?_
      refine lv_lconst (v := 0) (pc := 57) hx hb dX6_putCapacity_57 rfl ?_
      refine g_last (j := 0) (w1 := [(a 0, .inr (6, [.ref (a 1), .ref (a 2), .ref (a 3), .int (M.1 0), .ref (a 4), .ref (a 5), .int (M.1 1), .int (M.1 2), .int (M.1 3), .ref (a 6), .ref (a 7), .int (M.1 4), .int (M.1 5), .int (M.1 6), .long M.2.1])), (a 1, .inl (eJ E, 68, .inr (.inl (vp_updL (vp_updL (vp_updL M.2.2.1 2 lo.toInt64) 3 up.toInt64) 0 0)))), (a 2, .inl (eJ E, 68, .inr (.inl M.2.2.2.1))), (a 3, .inl (eJ E, 340, .inr (.inl M.2.2.2.2.1))), (a 4, .inl (eI E, 3, .inl M.2.2.2.2.2.1)), (a 5, .inl (eI E, 120, .inl M.2.2.2.2.2.2.1)), (a 6, .inl (eI E, 60, .inl M.2.2.2.2.2.2.2.1)), (a 7, .inl (eI E, 120, .inl M.2.2.2.2.2.2.2.2))]) (pc := 58) hx hb hK.1 hP hD hS 1 1 rfl rfl (g_in (by decide +kernel)) rfl rfl dX6_putCapacity_58 (fun H locs hP hD hS => ?_)
      refine lv_aload_n (pc := 59) hx hb dX6_putCapacity_59 rfl (lv_at hl 1 rfl) ?_
      refine g_get (v := .ref (a 1)) (pc := 60) hx hb hts ii_X6_putCapacity_X6 hown hK.1 hP 0 rfl rfl 0 (by decide) ⟨rfl, rfl, rfl⟩ mm_X6_putCapacity_3 rfl dX6_putCapacity_60 ?_
      refine lv_iconst (v := 1) (pc := 63) hx hb dX6_putCapacity_63 rfl ?_
      refine lv_iload_n (pc := 64) hx hb dX6_putCapacity_64 rfl (lv_at hl 3 rfl) ?_
      refine lv_i2l (v := up.toInt64) (pc := 65) hx hb dX6_putCapacity_65 rfl ?_
      refine g_last (j := 1) (w1 := [(a 0, .inr (6, [.ref (a 1), .ref (a 2), .ref (a 3), .int (M.1 0), .ref (a 4), .ref (a 5), .int (M.1 1), .int (M.1 2), .int (M.1 3), .ref (a 6), .ref (a 7), .int (M.1 4), .int (M.1 5), .int (M.1 6), .long M.2.1])), (a 1, .inl (eJ E, 68, .inr (.inl (vp_updL (vp_updL (vp_updL (vp_updL M.2.2.1 2 lo.toInt64) 3 up.toInt64) 0 0) 1 up.toInt64)))), (a 2, .inl (eJ E, 68, .inr (.inl M.2.2.2.1))), (a 3, .inl (eJ E, 340, .inr (.inl M.2.2.2.2.1))), (a 4, .inl (eI E, 3, .inl M.2.2.2.2.2.1)), (a 5, .inl (eI E, 120, .inl M.2.2.2.2.2.2.1)), (a 6, .inl (eI E, 60, .inl M.2.2.2.2.2.2.2.1)), (a 7, .inl (eI E, 120, .inl M.2.2.2.2.2.2.2.2))]) (pc := 66) hx hb hK.1 hP hD hS 1 1 rfl rfl (g_in (by decide +kernel)) rfl rfl dX6_putCapacity_66 (fun H locs hP hD hS => ?_)
      refine lv_aload_n (pc := 67) hx hb dX6_putCapacity_67 rfl (lv_at hl 1 rfl) ?_
      refine g_get (v := .ref (a 1)) (pc := 68) hx hb hts ii_X6_putCapacity_X6 hown hK.1 hP 0 rfl rfl 0 (by decide) ⟨rfl, rfl, rfl⟩ mm_X6_putCapacity_3 rfl dX6_putCapacity_68 ?_
      refine lv_iconst (v := 4) (pc := 71) hx hb dX6_putCapacity_71 rfl ?_
      refine lv_ldc2 (v := (100)) (pc := 72) hx hb hown (hts _ mm_X6_putCapacity_4) dX6_putCapacity_72 ?_
      refine g_last (j := 4) (w1 := [(a 0, .inr (6, [.ref (a 1), .ref (a 2), .ref (a 3), .int (M.1 0), .ref (a 4), .ref (a 5), .int (M.1 1), .int (M.1 2), .int (M.1 3), .ref (a 6), .ref (a 7), .int (M.1 4), .int (M.1 5), .int (M.1 6), .long M.2.1])), (a 1, .inl (eJ E, 68, .inr (.inl (vp_updL (vp_updL (vp_updL (vp_updL (vp_updL M.2.2.1 2 lo.toInt64) 3 up.toInt64) 0 0) 1 up.toInt64) 4 100)))), (a 2, .inl (eJ E, 68, .inr (.inl M.2.2.2.1))), (a 3, .inl (eJ E, 340, .inr (.inl M.2.2.2.2.1))), (a 4, .inl (eI E, 3, .inl M.2.2.2.2.2.1)), (a 5, .inl (eI E, 120, .inl M.2.2.2.2.2.2.1)), (a 6, .inl (eI E, 60, .inl M.2.2.2.2.2.2.2.1)), (a 7, .inl (eI E, 120, .inl M.2.2.2.2.2.2.2.2))]) (pc := 75) hx hb hK.1 hP hD hS 1 1 rfl rfl (g_in (by decide +kernel)) rfl rfl dX6_putCapacity_75 (fun H locs hP hD hS => ?_)
      refine lv_iconst (v := 5) (pc := 76) hx hb dX6_putCapacity_76 rfl ?_
      refine lv_istore (lv' := [(4, .int 5), (3, .int x5), (0, .ref (a 0)), (1, .int lo), (2, .int up)]) (pc := 77) hx hb dX6_putCapacity_77 hl (by decide) rfl (fun ls hl => ?_)
      have loop9 : ∀ (n7 i6 : Nat), i6 + n7 = 4 → ∀ (H : Heap) (locs : List Loc) (ls : Array Slot), va_P E.1 vwCl [(a 0, .inr (6, [.ref (a 1), .ref (a 2), .ref (a 3), .int (M.1 0), .ref (a 4), .ref (a 5), .int (M.1 1), .int (M.1 2), .int (M.1 3), .ref (a 6), .ref (a 7), .int (M.1 4), .int (M.1 5), .int (M.1 6), .long M.2.1])), (a 1, .inl (eJ E, 68, .inr (.inl (lpZ (vp_updL (vp_updL (vp_updL (vp_updL (vp_updL M.2.2.1 2 lo.toInt64) 3 up.toInt64) 0 0) 1 up.toInt64) 4 100) 5 i6)))), (a 2, .inl (eJ E, 68, .inr (.inl M.2.2.2.1))), (a 3, .inl (eJ E, 340, .inr (.inl M.2.2.2.2.1))), (a 4, .inl (eI E, 3, .inl M.2.2.2.2.2.1)), (a 5, .inl (eI E, 120, .inl M.2.2.2.2.2.2.1)), (a 6, .inl (eI E, 60, .inl M.2.2.2.2.2.2.2.1)), (a 7, .inl (eI E, 120, .inl M.2.2.2.2.2.2.2.2))] H → va_D A [(a 0, .inr (6, [.ref (a 1), .ref (a 2), .ref (a 3), .int (M.1 0), .ref (a 4), .ref (a 5), .int (M.1 1), .int (M.1 2), .int (M.1 3), .ref (a 6), .ref (a 7), .int (M.1 4), .int (M.1 5), .int (M.1 6), .long M.2.1])), (a 1, .inl (eJ E, 68, .inr (.inl (lpZ (vp_updL (vp_updL (vp_updL (vp_updL (vp_updL M.2.2.1 2 lo.toInt64) 3 up.toInt64) 0 0) 1 up.toInt64) 4 100) 5 i6)))), (a 2, .inl (eJ E, 68, .inr (.inl M.2.2.2.1))), (a 3, .inl (eJ E, 340, .inr (.inl M.2.2.2.2.1))), (a 4, .inl (eI E, 3, .inl M.2.2.2.2.2.1)), (a 5, .inl (eI E, 120, .inl M.2.2.2.2.2.2.1)), (a 6, .inl (eI E, 60, .inl M.2.2.2.2.2.2.2.1)), (a 7, .inl (eI E, 120, .inl M.2.2.2.2.2.2.2.2))] → va_S A s.heap H locs → lv_has ls 5 [(0, .ref (a 0)), (1, .int lo), (2, .int up), (3, .int x5), (4, .int (nI (5 + i6)))] → W p l e rX6_putCapacity s m args below meth c H locs 0 0 Q (F0 m 79 ls []) := by
        intro n7
        induction n7 with
        | zero =>
          intro i6 hi H locs ls hP hD hS hl
          obtain rfl : i6 = 4 := by omega
          refine lv_iload (pc := 79) hx hb dX6_putCapacity_79 (lv_at hl 4 rfl) ?_
          refine lv_bipush (v := 9) (pc := 81) hx hb dX6_putCapacity_81 rfl ?_
          refine lv_icmp_ge (tgt := 100) (pc := 83) hx hb dX6_putCapacity_83 (by decide) (fun c_10 => ?_) (fun c_10 => ?_)
          rotate_left
          · exact absurd (nI_le (a := 9) (b := 9) (by decide) (by decide)) c_10
          refine lv_aload_n (pc := 100) hx hb dX6_putCapacity_100 rfl (lv_at hl 0 rfl) ?_
          refine g_get (v := .ref (a 1)) (pc := 101) hx hb hts ii_X6_putCapacity_X6 hown hK.1 hP 0 rfl rfl 0 (by decide) ⟨rfl, rfl, rfl⟩ mm_X6_putCapacity_3 rfl dX6_putCapacity_101 ?_
          refine lv_bipush (v := 9) (pc := 104) hx hb dX6_putCapacity_104 rfl ?_
          refine lv_ldc2 (v := (-10000001)) (pc := 106) hx hb hown (hts _ mm_X6_putCapacity_5) dX6_putCapacity_106 ?_
          refine g_last (j := 9) (w1 := [(a 0, .inr (6, [.ref (a 1), .ref (a 2), .ref (a 3), .int (M.1 0), .ref (a 4), .ref (a 5), .int (M.1 1), .int (M.1 2), .int (M.1 3), .ref (a 6), .ref (a 7), .int (M.1 4), .int (M.1 5), .int (M.1 6), .long M.2.1])), (a 1, .inl (eJ E, 68, .inr (.inl (vp_updL (lpZ (vp_updL (vp_updL (vp_updL (vp_updL (vp_updL M.2.2.1 2 lo.toInt64) 3 up.toInt64) 0 0) 1 up.toInt64) 4 100) 5 4) 9 (-10000001))))), (a 2, .inl (eJ E, 68, .inr (.inl M.2.2.2.1))), (a 3, .inl (eJ E, 340, .inr (.inl M.2.2.2.2.1))), (a 4, .inl (eI E, 3, .inl M.2.2.2.2.2.1)), (a 5, .inl (eI E, 120, .inl M.2.2.2.2.2.2.1)), (a 6, .inl (eI E, 60, .inl M.2.2.2.2.2.2.2.1)), (a 7, .inl (eI E, 120, .inl M.2.2.2.2.2.2.2.2))]) (pc := 109) hx hb hK.1 hP hD hS 1 1 rfl rfl (g_in (by decide +kernel)) rfl rfl dX6_putCapacity_109 (fun H locs hP hD hS => ?_)
          refine lv_aload_n (pc := 110) hx hb dX6_putCapacity_110 rfl (lv_at hl 0 rfl) ?_
          refine g_get (v := .ref (a 1)) (pc := 111) hx hb hts ii_X6_putCapacity_X6 hown hK.1 hP 0 rfl rfl 0 (by decide) ⟨rfl, rfl, rfl⟩ mm_X6_putCapacity_3 rfl dX6_putCapacity_111 ?_
          refine lv_bipush (v := 10) (pc := 114) hx hb dX6_putCapacity_114 rfl ?_
          refine lv_ldc2 (v := (-10000001)) (pc := 116) hx hb hown (hts _ mm_X6_putCapacity_5) dX6_putCapacity_116 ?_
          refine g_last (j := 10) (w1 := [(a 0, .inr (6, [.ref (a 1), .ref (a 2), .ref (a 3), .int (M.1 0), .ref (a 4), .ref (a 5), .int (M.1 1), .int (M.1 2), .int (M.1 3), .ref (a 6), .ref (a 7), .int (M.1 4), .int (M.1 5), .int (M.1 6), .long M.2.1])), (a 1, .inl (eJ E, 68, .inr (.inl (vp_updL (vp_updL (lpZ (vp_updL (vp_updL (vp_updL (vp_updL (vp_updL M.2.2.1 2 lo.toInt64) 3 up.toInt64) 0 0) 1 up.toInt64) 4 100) 5 4) 9 (-10000001)) 10 (-10000001))))), (a 2, .inl (eJ E, 68, .inr (.inl M.2.2.2.1))), (a 3, .inl (eJ E, 340, .inr (.inl M.2.2.2.2.1))), (a 4, .inl (eI E, 3, .inl M.2.2.2.2.2.1)), (a 5, .inl (eI E, 120, .inl M.2.2.2.2.2.2.1)), (a 6, .inl (eI E, 60, .inl M.2.2.2.2.2.2.2.1)), (a 7, .inl (eI E, 120, .inl M.2.2.2.2.2.2.2.2))]) (pc := 119) hx hb hK.1 hP hD hS 1 1 rfl rfl (g_in (by decide +kernel)) rfl rfl dX6_putCapacity_119 (fun H locs hP hD hS => ?_)
          refine lv_bipush (v := 24) (pc := 120) hx hb dX6_putCapacity_120 rfl ?_
          refine lv_istore (lv' := [(4, .int 24), (0, .ref (a 0)), (1, .int lo), (2, .int up), (3, .int x5)]) (pc := 122) hx hb dX6_putCapacity_122 hl (by decide) rfl (fun ls hl => ?_)
          have loop14 : ∀ (n12 i11 : Nat), i11 + n12 = 44 → ∀ (H : Heap) (locs : List Loc) (ls : Array Slot), va_P E.1 vwCl [(a 0, .inr (6, [.ref (a 1), .ref (a 2), .ref (a 3), .int (M.1 0), .ref (a 4), .ref (a 5), .int (M.1 1), .int (M.1 2), .int (M.1 3), .ref (a 6), .ref (a 7), .int (M.1 4), .int (M.1 5), .int (M.1 6), .long M.2.1])), (a 1, .inl (eJ E, 68, .inr (.inl (lpZ (vp_updL (vp_updL (lpZ (vp_updL (vp_updL (vp_updL (vp_updL (vp_updL M.2.2.1 2 lo.toInt64) 3 up.toInt64) 0 0) 1 up.toInt64) 4 100) 5 4) 9 (-10000001)) 10 (-10000001)) 24 i11)))), (a 2, .inl (eJ E, 68, .inr (.inl M.2.2.2.1))), (a 3, .inl (eJ E, 340, .inr (.inl M.2.2.2.2.1))), (a 4, .inl (eI E, 3, .inl M.2.2.2.2.2.1)), (a 5, .inl (eI E, 120, .inl M.2.2.2.2.2.2.1)), (a 6, .inl (eI E, 60, .inl M.2.2.2.2.2.2.2.1)), (a 7, .inl (eI E, 120, .inl M.2.2.2.2.2.2.2.2))] H → va_D A [(a 0, .inr (6, [.ref (a 1), .ref (a 2), .ref (a 3), .int (M.1 0), .ref (a 4), .ref (a 5), .int (M.1 1), .int (M.1 2), .int (M.1 3), .ref (a 6), .ref (a 7), .int (M.1 4), .int (M.1 5), .int (M.1 6), .long M.2.1])), (a 1, .inl (eJ E, 68, .inr (.inl (lpZ (vp_updL (vp_updL (lpZ (vp_updL (vp_updL (vp_updL (vp_updL (vp_updL M.2.2.1 2 lo.toInt64) 3 up.toInt64) 0 0) 1 up.toInt64) 4 100) 5 4) 9 (-10000001)) 10 (-10000001)) 24 i11)))), (a 2, .inl (eJ E, 68, .inr (.inl M.2.2.2.1))), (a 3, .inl (eJ E, 340, .inr (.inl M.2.2.2.2.1))), (a 4, .inl (eI E, 3, .inl M.2.2.2.2.2.1)), (a 5, .inl (eI E, 120, .inl M.2.2.2.2.2.2.1)), (a 6, .inl (eI E, 60, .inl M.2.2.2.2.2.2.2.1)), (a 7, .inl (eI E, 120, .inl M.2.2.2.2.2.2.2.2))] → va_S A s.heap H locs → lv_has ls 5 [(0, .ref (a 0)), (1, .int lo), (2, .int up), (3, .int x5), (4, .int (nI (24 + i11)))] → W p l e rX6_putCapacity s m args below meth c H locs 0 0 Q (F0 m 124 ls []) := by
            intro n12
            induction n12 with
            | zero =>
              intro i11 hi H locs ls hP hD hS hl
              obtain rfl : i11 = 44 := by omega
              refine lv_iload (pc := 124) hx hb dX6_putCapacity_124 (lv_at hl 4 rfl) ?_
              refine lv_bipush (v := 68) (pc := 126) hx hb dX6_putCapacity_126 rfl ?_
              refine lv_icmp_ge (tgt := 145) (pc := 128) hx hb dX6_putCapacity_128 (by decide) (fun c_15 => ?_) (fun c_15 => ?_)
              rotate_left
              · exact absurd (nI_le (a := 68) (b := 68) (by decide) (by decide)) c_15
              refine lv_iload_n (pc := 145) hx hb dX6_putCapacity_145 rfl (lv_at hl 3 rfl) ?_
              subst ex5
              subst er3
              subst er1
              have hfn : fX6_putCapacity M lo up = _ := (if_neg c_2).trans (if_neg c_4)
              rw [hfn] at hQ
              exact hQ _ _ _ _ _ rfl hP hD hS dX6_putCapacity_146
            | succ n12 ih13 =>
              intro i11 hi H locs ls hP hD hS hl
              have hlt : i11 < 44 := by omega
              refine lv_iload (pc := 124) hx hb dX6_putCapacity_124 (lv_at hl 4 rfl) ?_
              refine lv_bipush (v := 68) (pc := 126) hx hb dX6_putCapacity_126 rfl ?_
              refine lv_icmp_ge (tgt := 145) (pc := 128) hx hb dX6_putCapacity_128 (by decide) (fun c_16 => ?_) (fun c_16 => ?_)
              · exact absurd c_16 (nI_ge (a := (24 + i11)) (b := 68) (by omega) (by decide))
              refine lv_aload_n (pc := 131) hx hb dX6_putCapacity_131 rfl (lv_at hl 0 rfl) ?_
              refine g_get (v := .ref (a 1)) (pc := 132) hx hb hts ii_X6_putCapacity_X6 hown hK.1 hP 0 rfl rfl 0 (by decide) ⟨rfl, rfl, rfl⟩ mm_X6_putCapacity_3 rfl dX6_putCapacity_132 ?_
              refine lv_iload (pc := 135) hx hb dX6_putCapacity_135 (lv_at hl 4 rfl) ?_
              refine lv_lconst (v := 0) (pc := 137) hx hb dX6_putCapacity_137 rfl ?_
              refine g_last (j := (24 + i11)) (w1 := [(a 0, .inr (6, [.ref (a 1), .ref (a 2), .ref (a 3), .int (M.1 0), .ref (a 4), .ref (a 5), .int (M.1 1), .int (M.1 2), .int (M.1 3), .ref (a 6), .ref (a 7), .int (M.1 4), .int (M.1 5), .int (M.1 6), .long M.2.1])), (a 1, .inl (eJ E, 68, .inr (.inl (vp_updL (lpZ (vp_updL (vp_updL (lpZ (vp_updL (vp_updL (vp_updL (vp_updL (vp_updL M.2.2.1 2 lo.toInt64) 3 up.toInt64) 0 0) 1 up.toInt64) 4 100) 5 4) 9 (-10000001)) 10 (-10000001)) 24 i11) (24 + i11) 0)))), (a 2, .inl (eJ E, 68, .inr (.inl M.2.2.2.1))), (a 3, .inl (eJ E, 340, .inr (.inl M.2.2.2.2.1))), (a 4, .inl (eI E, 3, .inl M.2.2.2.2.2.1)), (a 5, .inl (eI E, 120, .inl M.2.2.2.2.2.2.1)), (a 6, .inl (eI E, 60, .inl M.2.2.2.2.2.2.2.1)), (a 7, .inl (eI E, 120, .inl M.2.2.2.2.2.2.2.2))]) (pc := 138) hx hb hK.1 hP hD hS 1 1 rfl rfl (vp_in_nI (by omega) (by decide)) (nI_clamp (by omega)) rfl dX6_putCapacity_138 (fun H locs hP hD hS => ?_)
              refine lv_iinc (v := nI (24 + (i11 + 1))) (lv' := [(4, .int (nI (24 + (i11 + 1)))), (0, .ref (a 0)), (1, .int lo), (2, .int up), (3, .int x5)]) (pc := 139) hx hb dX6_putCapacity_139 hl (k := 4) rfl (nI_1 (24 + i11)) (by decide) rfl (fun ls hl => ?_)
              refine lv_goto (tgt := 124) (pc := 142) hx hb dX6_putCapacity_142 (by decide) ?_
              exact ih13 (i11 + 1) (by omega) _ _ _ hP hD hS (lv_sub hl [1, 2, 3, 4, 0] rfl)
          exact loop14 44 0 (by decide) _ _ _ hP hD hS (lv_sub hl [1, 2, 3, 4, 0] rfl)
        | succ n7 ih8 =>
          intro i6 hi H locs ls hP hD hS hl
          have hlt : i6 < 4 := by omega
          refine lv_iload (pc := 79) hx hb dX6_putCapacity_79 (lv_at hl 4 rfl) ?_
          refine lv_bipush (v := 9) (pc := 81) hx hb dX6_putCapacity_81 rfl ?_
          refine lv_icmp_ge (tgt := 100) (pc := 83) hx hb dX6_putCapacity_83 (by decide) (fun c_17 => ?_) (fun c_17 => ?_)
          · exact absurd c_17 (nI_ge (a := (5 + i6)) (b := 9) (by omega) (by decide))
          refine lv_aload_n (pc := 86) hx hb dX6_putCapacity_86 rfl (lv_at hl 0 rfl) ?_
          refine g_get (v := .ref (a 1)) (pc := 87) hx hb hts ii_X6_putCapacity_X6 hown hK.1 hP 0 rfl rfl 0 (by decide) ⟨rfl, rfl, rfl⟩ mm_X6_putCapacity_3 rfl dX6_putCapacity_87 ?_
          refine lv_iload (pc := 90) hx hb dX6_putCapacity_90 (lv_at hl 4 rfl) ?_
          refine lv_lconst (v := 0) (pc := 92) hx hb dX6_putCapacity_92 rfl ?_
          refine g_last (j := (5 + i6)) (w1 := [(a 0, .inr (6, [.ref (a 1), .ref (a 2), .ref (a 3), .int (M.1 0), .ref (a 4), .ref (a 5), .int (M.1 1), .int (M.1 2), .int (M.1 3), .ref (a 6), .ref (a 7), .int (M.1 4), .int (M.1 5), .int (M.1 6), .long M.2.1])), (a 1, .inl (eJ E, 68, .inr (.inl (vp_updL (lpZ (vp_updL (vp_updL (vp_updL (vp_updL (vp_updL M.2.2.1 2 lo.toInt64) 3 up.toInt64) 0 0) 1 up.toInt64) 4 100) 5 i6) (5 + i6) 0)))), (a 2, .inl (eJ E, 68, .inr (.inl M.2.2.2.1))), (a 3, .inl (eJ E, 340, .inr (.inl M.2.2.2.2.1))), (a 4, .inl (eI E, 3, .inl M.2.2.2.2.2.1)), (a 5, .inl (eI E, 120, .inl M.2.2.2.2.2.2.1)), (a 6, .inl (eI E, 60, .inl M.2.2.2.2.2.2.2.1)), (a 7, .inl (eI E, 120, .inl M.2.2.2.2.2.2.2.2))]) (pc := 93) hx hb hK.1 hP hD hS 1 1 rfl rfl (vp_in_nI (by omega) (by decide)) (nI_clamp (by omega)) rfl dX6_putCapacity_93 (fun H locs hP hD hS => ?_)
          refine lv_iinc (v := nI (5 + (i6 + 1))) (lv' := [(4, .int (nI (5 + (i6 + 1)))), (0, .ref (a 0)), (1, .int lo), (2, .int up), (3, .int x5)]) (pc := 94) hx hb dX6_putCapacity_94 hl (k := 4) rfl (nI_1 (5 + i6)) (by decide) rfl (fun ls hl => ?_)
          refine lv_goto (tgt := 79) (pc := 97) hx hb dX6_putCapacity_97 (by decide) ?_
          exact ih8 (i6 + 1) (by omega) _ _ _ hP hD hS (lv_sub hl [1, 2, 3, 4, 0] rfl)
      exact loop9 4 0 (by decide) _ _ _ hP hD hS (lv_sub hl [2, 3, 4, 1, 0] rfl)
    · refine lv_ldc (v := (-10000002)) (pc := 25) hx hb hown (hts _ mm_X6_putCapacity_2) dX6_putCapacity_25 ?_
      subst er3
      subst er1
      have hfn : fX6_putCapacity M lo up = _ := (if_neg c_2).trans (if_pos c_4)
      rw [hfn] at hQ
      exact hQ _ _ _ _ _ rfl hP hD hS dX6_putCapacity_27

def fX6_putCharge (M : Mdl) (lo : Int32) (up : Int32) : Int32 × (Mdl) :=
  let r1 : Int32 := fX6_in lo.toInt64 0 99999
  if r1 = 0 then
    ((-10000002), M)
  else
    let r3 : Int32 := fX6_in up.toInt64 lo.toInt64 (M.2.2.1 3)
    if r3 = 0 then
      ((-10000002), M)
    else
      let x5 : Int32 := (M.2.2.1 1).toInt32
      (x5, (M.1, M.2.1, (vp_updL (vp_updL M.2.2.1 0 lo.toInt64) 1 up.toInt64), M.2.2.2.1, M.2.2.2.2.1, M.2.2.2.2.2.1, M.2.2.2.2.2.2.1, M.2.2.2.2.2.2.2.1, M.2.2.2.2.2.2.2.2))
abbrev rX6_putCharge : Room := { frames := 1, cells := 0, slots := 0, locals := 25 }
theorem mm_X6_putCharge_1 : Cond.constantLong RX6 67 (99999) ∈ wsX6_putCharge := List.mem_of_getElem? (i := 1) rfl
theorem mm_X6_putCharge_3 : Cond.constant RX6 44 (-10000002) ∈ wsX6_putCharge := List.mem_of_getElem? (i := 3) rfl
theorem mm_X6_putCharge_2 : Cond.fieldLink RX6 7 "GaugeBoundsModel" "now" "[J" ∈ wsX6_putCharge := List.mem_of_getElem? (i := 2) rfl
theorem ii_X6_putCharge_X6 : ∀ w ∈ wsX60, w ∈ wsX6_putCharge := fun _ h => List.mem_cons_of_mem _ (List.mem_append_right _ (h))
theorem qvX6_putCharge : yX6_putCharge.cls = RX6 ∧ yX6_putCharge.cls ≠ "java/lang/invoke/MethodHandle" ∧ yX6_putCharge.cls ≠ "java/lang/invoke/VarHandle" ∧ (parseMethodDescriptor yX6_putCharge.desc).map (fun d => d.parameters.length) = some 2 := by decide +kernel
set_option maxHeartbeats 4000000 in
set_option maxRecDepth 100000 in
theorem kX6_putCharge (l : Launch) (E : gEnv) (a : Nat → Nat) (M : Mdl) (lo : Int32) (up : Int32) : gMi l E yX6_putCharge wsX6_putCharge rX6_putCharge [.ref (a 0), .int lo, .int up] (wM E a M) (fX6_putCharge M lo up).1 (wM E a ((fX6_putCharge M lo up).2)) := by
  refine gMi_of (cc := cX6_putCharge) (maxL := 4) (ret := (some .int)) (by decide) rfl rfl (Nat.le_of_ble_eq_true rfl) ?_
  intro p e s m args below meth c A Q ls hB hQ
  obtain ⟨hx, hb, hml, hown, hts, hK, hP, hD, hA, hS, hl⟩ := hB
  have hown : s.vm.findClass RX6 = some m.cls := hown
  have hP : va_P E.1 vwCl [(a 0, .inr (6, [.ref (a 1), .ref (a 2), .ref (a 3), .int (M.1 0), .ref (a 4), .ref (a 5), .int (M.1 1), .int (M.1 2), .int (M.1 3), .ref (a 6), .ref (a 7), .int (M.1 4), .int (M.1 5), .int (M.1 6), .long M.2.1])), (a 1, .inl (eJ E, 68, .inr (.inl M.2.2.1))), (a 2, .inl (eJ E, 68, .inr (.inl M.2.2.2.1))), (a 3, .inl (eJ E, 340, .inr (.inl M.2.2.2.2.1))), (a 4, .inl (eI E, 3, .inl M.2.2.2.2.2.1)), (a 5, .inl (eI E, 120, .inl M.2.2.2.2.2.2.1)), (a 6, .inl (eI E, 60, .inl M.2.2.2.2.2.2.2.1)), (a 7, .inl (eI E, 120, .inl M.2.2.2.2.2.2.2.2))] s.heap := hP
  have hD : va_D A [(a 0, .inr (6, [.ref (a 1), .ref (a 2), .ref (a 3), .int (M.1 0), .ref (a 4), .ref (a 5), .int (M.1 1), .int (M.1 2), .int (M.1 3), .ref (a 6), .ref (a 7), .int (M.1 4), .int (M.1 5), .int (M.1 6), .long M.2.1])), (a 1, .inl (eJ E, 68, .inr (.inl M.2.2.1))), (a 2, .inl (eJ E, 68, .inr (.inl M.2.2.2.1))), (a 3, .inl (eJ E, 340, .inr (.inl M.2.2.2.2.1))), (a 4, .inl (eI E, 3, .inl M.2.2.2.2.2.1)), (a 5, .inl (eI E, 120, .inl M.2.2.2.2.2.2.1)), (a 6, .inl (eI E, 60, .inl M.2.2.2.2.2.2.2.1)), (a 7, .inl (eI E, 120, .inl M.2.2.2.2.2.2.2.2))] := hD
  have hl : lv_has ls 4 [(0, .ref (a 0)), (1, .int lo), (2, .int up)] := hl
  refine lv_iload_n (pc := 0) hx hb dX6_putCharge_0 rfl (lv_at hl 1 rfl) ?_
  refine lv_i2l (v := lo.toInt64) (pc := 1) hx hb dX6_putCharge_1 rfl ?_
  refine lv_lconst (v := 0) (pc := 2) hx hb dX6_putCharge_2 rfl ?_
  refine lv_ldc2 (v := (99999)) (pc := 3) hx hb hown (hts _ mm_X6_putCharge_1) dX6_putCharge_3 ?_
  obtain ⟨r1, er1⟩ : ∃ z : Int32, fX6_in lo.toInt64 0 99999 = z := ⟨_, rfl⟩
  have hr1 := kX6_in l E lo.toInt64 0 99999
  rw [er1] at hr1
  refine gcSi (pc := 6) (As := [.long lo.toInt64, .long 0, .long 99999]) (rest := []) ⟨hx, hb, hml, hown, hts⟩ hr1 (cwS 3 hts gX6_putCharge_X6_in rfl rfl rfl qsX6_in ⟨Nat.le_of_ble_eq_true rfl, Nat.le_of_ble_eq_true rfl⟩) hK hP hD hS hA rfl hl.1 rfl (Nat.le_of_ble_eq_true rfl) dX6_putCharge_6 ⟨Nat.zero_le _, Nat.zero_le _⟩ (fun H locs hP hD hS => ?_)
  refine lv_if_eq (tgt := 28) (pc := 9) hx hb dX6_putCharge_9 (by decide) (fun c_2 => ?_) (fun c_2 => ?_)
  · refine lv_ldc (v := (-10000002)) (pc := 28) hx hb hown (hts _ mm_X6_putCharge_3) dX6_putCharge_28 ?_
    subst er1
    have hfn : fX6_putCharge M lo up = _ := if_pos c_2
    rw [hfn] at hQ
    exact hQ _ _ _ _ _ rfl hP hD hS dX6_putCharge_30
  · refine lv_iload_n (pc := 12) hx hb dX6_putCharge_12 rfl (lv_at hl 2 rfl) ?_
    refine lv_i2l (v := up.toInt64) (pc := 13) hx hb dX6_putCharge_13 rfl ?_
    refine lv_iload_n (pc := 14) hx hb dX6_putCharge_14 rfl (lv_at hl 1 rfl) ?_
    refine lv_i2l (v := lo.toInt64) (pc := 15) hx hb dX6_putCharge_15 rfl ?_
    refine lv_aload_n (pc := 16) hx hb dX6_putCharge_16 rfl (lv_at hl 0 rfl) ?_
    refine g_get (v := .ref (a 1)) (pc := 17) hx hb hts ii_X6_putCharge_X6 hown hK.1 hP 0 rfl rfl 0 (by decide) ⟨rfl, rfl, rfl⟩ mm_X6_putCharge_2 rfl dX6_putCharge_17 ?_
    refine lv_iconst (v := 3) (pc := 20) hx hb dX6_putCharge_20 rfl ?_
    refine g_lald (j := 3) (v := (M.2.2.1 3)) (pc := 21) hx hb hK.1 hP 1 1 rfl rfl (g_in (by decide +kernel)) rfl rfl dX6_putCharge_21 ?_
    obtain ⟨r3, er3⟩ : ∃ z : Int32, fX6_in up.toInt64 lo.toInt64 (M.2.2.1 3) = z := ⟨_, rfl⟩
    have hr3 := kX6_in l E up.toInt64 lo.toInt64 (M.2.2.1 3)
    rw [er3] at hr3
    refine gcSi (pc := 22) (As := [.long up.toInt64, .long lo.toInt64, .long (M.2.2.1 3)]) (rest := []) ⟨hx, hb, hml, hown, hts⟩ hr3 (cwS 3 hts gX6_putCharge_X6_in rfl rfl rfl qsX6_in ⟨Nat.le_of_ble_eq_true rfl, Nat.le_of_ble_eq_true rfl⟩) hK hP hD hS hA rfl hl.1 rfl (Nat.le_of_ble_eq_true rfl) dX6_putCharge_22 ⟨Nat.zero_le _, Nat.zero_le _⟩ (fun H locs hP hD hS => ?_)
    refine lv_if_ne (tgt := 31) (pc := 25) hx hb dX6_putCharge_25 (by decide) (fun c_4 => ?_) (fun c_4 => ?_)
    · refine lv_aload_n (pc := 31) hx hb dX6_putCharge_31 rfl (lv_at hl 0 rfl) ?_
      refine g_get (v := .ref (a 1)) (pc := 32) hx hb hts ii_X6_putCharge_X6 hown hK.1 hP 0 rfl rfl 0 (by decide) ⟨rfl, rfl, rfl⟩ mm_X6_putCharge_2 rfl dX6_putCharge_32 ?_
      refine lv_iconst (v := 1) (pc := 35) hx hb dX6_putCharge_35 rfl ?_
      refine g_lald (j := 1) (v := (M.2.2.1 1)) (pc := 36) hx hb hK.1 hP 1 1 rfl rfl (g_in (by decide +kernel)) rfl rfl dX6_putCharge_36 ?_
      refine lv_l2i (v := (M.2.2.1 1).toInt32) (pc := 37) hx hb dX6_putCharge_37 rfl ?_
      refine g_topi (fun x5 ex5 => ?_)
      refine lv_istore_n (lv' := [(3, .int x5), (0, .ref (a 0)), (1, .int lo), (2, .int up)]) (pc := 38) hx hb dX6_putCharge_38 rfl hl (by decide) rfl (fun ls hl => ?_)
      refine lv_aload_n (pc := 39) hx hb dX6_putCharge_39 rfl (lv_at hl 1 rfl) ?_
      refine g_get (v := .ref (a 1)) (pc := 40) hx hb hts ii_X6_putCharge_X6 hown hK.1 hP 0 rfl rfl 0 (by decide) ⟨rfl, rfl, rfl⟩ mm_X6_putCharge_2 rfl dX6_putCharge_40 ?_
      refine lv_iconst (v := 0) (pc := 43) hx hb dX6_putCharge_43 rfl ?_
      refine lv_iload_n (pc := 44) hx hb dX6_putCharge_44 rfl (lv_at hl 2 rfl) ?_
      refine lv_i2l (v := lo.toInt64) (pc := 45) hx hb dX6_putCharge_45 rfl ?_
      refine g_last (j := 0) (w1 := [(a 0, .inr (6, [.ref (a 1), .ref (a 2), .ref (a 3), .int (M.1 0), .ref (a 4), .ref (a 5), .int (M.1 1), .int (M.1 2), .int (M.1 3), .ref (a 6), .ref (a 7), .int (M.1 4), .int (M.1 5), .int (M.1 6), .long M.2.1])), (a 1, .inl (eJ E, 68, .inr (.inl (vp_updL M.2.2.1 0 lo.toInt64)))), (a 2, .inl (eJ E, 68, .inr (.inl M.2.2.2.1))), (a 3, .inl (eJ E, 340, .inr (.inl M.2.2.2.2.1))), (a 4, .inl (eI E, 3, .inl M.2.2.2.2.2.1)), (a 5, .inl (eI E, 120, .inl M.2.2.2.2.2.2.1)), (a 6, .inl (eI E, 60, .inl M.2.2.2.2.2.2.2.1)), (a 7, .inl (eI E, 120, .inl M.2.2.2.2.2.2.2.2))]) (pc := 46) hx hb hK.1 hP hD hS 1 1 rfl rfl (g_in (by decide +kernel)) rfl rfl dX6_putCharge_46 (fun H locs hP hD hS => ?_)
      refine lv_aload_n (pc := 47) hx hb dX6_putCharge_47 rfl (lv_at hl 1 rfl) ?_
      refine g_get (v := .ref (a 1)) (pc := 48) hx hb hts ii_X6_putCharge_X6 hown hK.1 hP 0 rfl rfl 0 (by decide) ⟨rfl, rfl, rfl⟩ mm_X6_putCharge_2 rfl dX6_putCharge_48 ?_
      refine lv_iconst (v := 1) (pc := 51) hx hb dX6_putCharge_51 rfl ?_
      refine lv_iload_n (pc := 52) hx hb dX6_putCharge_52 rfl (lv_at hl 3 rfl) ?_
      refine lv_i2l (v := up.toInt64) (pc := 53) hx hb dX6_putCharge_53 rfl ?_
      refine g_last (j := 1) (w1 := [(a 0, .inr (6, [.ref (a 1), .ref (a 2), .ref (a 3), .int (M.1 0), .ref (a 4), .ref (a 5), .int (M.1 1), .int (M.1 2), .int (M.1 3), .ref (a 6), .ref (a 7), .int (M.1 4), .int (M.1 5), .int (M.1 6), .long M.2.1])), (a 1, .inl (eJ E, 68, .inr (.inl (vp_updL (vp_updL M.2.2.1 0 lo.toInt64) 1 up.toInt64)))), (a 2, .inl (eJ E, 68, .inr (.inl M.2.2.2.1))), (a 3, .inl (eJ E, 340, .inr (.inl M.2.2.2.2.1))), (a 4, .inl (eI E, 3, .inl M.2.2.2.2.2.1)), (a 5, .inl (eI E, 120, .inl M.2.2.2.2.2.2.1)), (a 6, .inl (eI E, 60, .inl M.2.2.2.2.2.2.2.1)), (a 7, .inl (eI E, 120, .inl M.2.2.2.2.2.2.2.2))]) (pc := 54) hx hb hK.1 hP hD hS 1 1 rfl rfl (g_in (by decide +kernel)) rfl rfl dX6_putCharge_54 (fun H locs hP hD hS => ?_)
      refine lv_iload_n (pc := 55) hx hb dX6_putCharge_55 rfl (lv_at hl 0 rfl) ?_
      subst ex5
      subst er3
      subst er1
      have hfn : fX6_putCharge M lo up = _ := (if_neg c_2).trans (if_neg c_4)
      rw [hfn] at hQ
      exact hQ _ _ _ _ _ rfl hP hD hS dX6_putCharge_56
    · refine lv_ldc (v := (-10000002)) (pc := 28) hx hb hown (hts _ mm_X6_putCharge_3) dX6_putCharge_28 ?_
      subst er3
      subst er1
      have hfn : fX6_putCharge M lo up = _ := (if_neg c_2).trans (if_pos c_4)
      rw [hfn] at hQ
      exact hQ _ _ _ _ _ rfl hP hD hS dX6_putCharge_30

def fX6_putSetting (M : Mdl) (pl : Int32) (v : Int32) (up : Int32) : Int32 × (Mdl) :=
  let r1 : Int32 := fX6_in v.toInt64 0 up.toInt64
  if r1 = 0 then
    ((-10000002), M)
  else
    let x3 : Int32 := (M.2.2.1 pl.toNatClampNeg).toInt32
    (x3, (M.1, M.2.1, (vp_updL M.2.2.1 pl.toNatClampNeg v.toInt64), M.2.2.2.1, M.2.2.2.2.1, M.2.2.2.2.2.1, M.2.2.2.2.2.2.1, M.2.2.2.2.2.2.2.1, M.2.2.2.2.2.2.2.2))
abbrev rX6_putSetting : Room := { frames := 1, cells := 0, slots := 0, locals := 25 }
theorem mm_X6_putSetting_2 : Cond.fieldLink RX6 7 "GaugeBoundsModel" "now" "[J" ∈ wsX6_putSetting := List.mem_of_getElem? (i := 2) rfl
theorem mm_X6_putSetting_1 : Cond.constant RX6 44 (-10000002) ∈ wsX6_putSetting := List.mem_of_getElem? (i := 1) rfl
theorem ii_X6_putSetting_X6 : ∀ w ∈ wsX60, w ∈ wsX6_putSetting := fun _ h => List.mem_cons_of_mem _ (List.mem_append_right _ (h))
theorem qvX6_putSetting : yX6_putSetting.cls = RX6 ∧ yX6_putSetting.cls ≠ "java/lang/invoke/MethodHandle" ∧ yX6_putSetting.cls ≠ "java/lang/invoke/VarHandle" ∧ (parseMethodDescriptor yX6_putSetting.desc).map (fun d => d.parameters.length) = some 3 := by decide +kernel
set_option maxHeartbeats 4000000 in
set_option maxRecDepth 100000 in
theorem kX6_putSetting (l : Launch) (E : gEnv) (a : Nat → Nat) (M : Mdl) (pl : Int32) (v : Int32) (up : Int32) (hp : vp_in pl 68) : gMi l E yX6_putSetting wsX6_putSetting rX6_putSetting [.ref (a 0), .int pl, .int v, .int up] (wM E a M) (fX6_putSetting M pl v up).1 (wM E a ((fX6_putSetting M pl v up).2)) := by
  refine gMi_of (cc := cX6_putSetting) (maxL := 5) (ret := (some .int)) (by decide) rfl rfl (Nat.le_of_ble_eq_true rfl) ?_
  intro p e s m args below meth c A Q ls hB hQ
  obtain ⟨hx, hb, hml, hown, hts, hK, hP, hD, hA, hS, hl⟩ := hB
  have hown : s.vm.findClass RX6 = some m.cls := hown
  have hP : va_P E.1 vwCl [(a 0, .inr (6, [.ref (a 1), .ref (a 2), .ref (a 3), .int (M.1 0), .ref (a 4), .ref (a 5), .int (M.1 1), .int (M.1 2), .int (M.1 3), .ref (a 6), .ref (a 7), .int (M.1 4), .int (M.1 5), .int (M.1 6), .long M.2.1])), (a 1, .inl (eJ E, 68, .inr (.inl M.2.2.1))), (a 2, .inl (eJ E, 68, .inr (.inl M.2.2.2.1))), (a 3, .inl (eJ E, 340, .inr (.inl M.2.2.2.2.1))), (a 4, .inl (eI E, 3, .inl M.2.2.2.2.2.1)), (a 5, .inl (eI E, 120, .inl M.2.2.2.2.2.2.1)), (a 6, .inl (eI E, 60, .inl M.2.2.2.2.2.2.2.1)), (a 7, .inl (eI E, 120, .inl M.2.2.2.2.2.2.2.2))] s.heap := hP
  have hD : va_D A [(a 0, .inr (6, [.ref (a 1), .ref (a 2), .ref (a 3), .int (M.1 0), .ref (a 4), .ref (a 5), .int (M.1 1), .int (M.1 2), .int (M.1 3), .ref (a 6), .ref (a 7), .int (M.1 4), .int (M.1 5), .int (M.1 6), .long M.2.1])), (a 1, .inl (eJ E, 68, .inr (.inl M.2.2.1))), (a 2, .inl (eJ E, 68, .inr (.inl M.2.2.2.1))), (a 3, .inl (eJ E, 340, .inr (.inl M.2.2.2.2.1))), (a 4, .inl (eI E, 3, .inl M.2.2.2.2.2.1)), (a 5, .inl (eI E, 120, .inl M.2.2.2.2.2.2.1)), (a 6, .inl (eI E, 60, .inl M.2.2.2.2.2.2.2.1)), (a 7, .inl (eI E, 120, .inl M.2.2.2.2.2.2.2.2))] := hD
  have hl : lv_has ls 5 [(0, .ref (a 0)), (1, .int pl), (2, .int v), (3, .int up)] := hl
  refine lv_iload_n (pc := 0) hx hb dX6_putSetting_0 rfl (lv_at hl 2 rfl) ?_
  refine lv_i2l (v := v.toInt64) (pc := 1) hx hb dX6_putSetting_1 rfl ?_
  refine lv_lconst (v := 0) (pc := 2) hx hb dX6_putSetting_2 rfl ?_
  refine lv_iload_n (pc := 3) hx hb dX6_putSetting_3 rfl (lv_at hl 3 rfl) ?_
  refine lv_i2l (v := up.toInt64) (pc := 4) hx hb dX6_putSetting_4 rfl ?_
  obtain ⟨r1, er1⟩ : ∃ z : Int32, fX6_in v.toInt64 0 up.toInt64 = z := ⟨_, rfl⟩
  have hr1 := kX6_in l E v.toInt64 0 up.toInt64
  rw [er1] at hr1
  refine gcSi (pc := 5) (As := [.long v.toInt64, .long 0, .long up.toInt64]) (rest := []) ⟨hx, hb, hml, hown, hts⟩ hr1 (cwS 3 hts gX6_putSetting_X6_in rfl rfl rfl qsX6_in ⟨Nat.le_of_ble_eq_true rfl, Nat.le_of_ble_eq_true rfl⟩) hK hP hD hS hA rfl hl.1 rfl (Nat.le_of_ble_eq_true rfl) dX6_putSetting_5 ⟨Nat.zero_le _, Nat.zero_le _⟩ (fun H locs hP hD hS => ?_)
  refine lv_if_ne (tgt := 14) (pc := 8) hx hb dX6_putSetting_8 (by decide) (fun c_2 => ?_) (fun c_2 => ?_)
  · refine lv_aload_n (pc := 14) hx hb dX6_putSetting_14 rfl (lv_at hl 0 rfl) ?_
    refine g_get (v := .ref (a 1)) (pc := 15) hx hb hts ii_X6_putSetting_X6 hown hK.1 hP 0 rfl rfl 0 (by decide) ⟨rfl, rfl, rfl⟩ mm_X6_putSetting_2 rfl dX6_putSetting_15 ?_
    refine lv_iload_n (pc := 18) hx hb dX6_putSetting_18 rfl (lv_at hl 1 rfl) ?_
    refine g_lald (j := pl.toNatClampNeg) (v := (M.2.2.1 pl.toNatClampNeg)) (pc := 19) hx hb hK.1 hP 1 1 rfl rfl hp rfl rfl dX6_putSetting_19 ?_
    refine lv_l2i (v := (M.2.2.1 pl.toNatClampNeg).toInt32) (pc := 20) hx hb dX6_putSetting_20 rfl ?_
    refine g_topi (fun x3 ex3 => ?_)
    refine lv_istore (lv' := [(4, .int x3), (0, .ref (a 0)), (1, .int pl), (2, .int v), (3, .int up)]) (pc := 21) hx hb dX6_putSetting_21 hl (by decide) rfl (fun ls hl => ?_)
    refine lv_aload_n (pc := 23) hx hb dX6_putSetting_23 rfl (lv_at hl 1 rfl) ?_
    refine g_get (v := .ref (a 1)) (pc := 24) hx hb hts ii_X6_putSetting_X6 hown hK.1 hP 0 rfl rfl 0 (by decide) ⟨rfl, rfl, rfl⟩ mm_X6_putSetting_2 rfl dX6_putSetting_24 ?_
    refine lv_iload_n (pc := 27) hx hb dX6_putSetting_27 rfl (lv_at hl 2 rfl) ?_
    refine lv_iload_n (pc := 28) hx hb dX6_putSetting_28 rfl (lv_at hl 3 rfl) ?_
    refine lv_i2l (v := v.toInt64) (pc := 29) hx hb dX6_putSetting_29 rfl ?_
    refine g_last (j := pl.toNatClampNeg) (w1 := [(a 0, .inr (6, [.ref (a 1), .ref (a 2), .ref (a 3), .int (M.1 0), .ref (a 4), .ref (a 5), .int (M.1 1), .int (M.1 2), .int (M.1 3), .ref (a 6), .ref (a 7), .int (M.1 4), .int (M.1 5), .int (M.1 6), .long M.2.1])), (a 1, .inl (eJ E, 68, .inr (.inl (vp_updL M.2.2.1 pl.toNatClampNeg v.toInt64)))), (a 2, .inl (eJ E, 68, .inr (.inl M.2.2.2.1))), (a 3, .inl (eJ E, 340, .inr (.inl M.2.2.2.2.1))), (a 4, .inl (eI E, 3, .inl M.2.2.2.2.2.1)), (a 5, .inl (eI E, 120, .inl M.2.2.2.2.2.2.1)), (a 6, .inl (eI E, 60, .inl M.2.2.2.2.2.2.2.1)), (a 7, .inl (eI E, 120, .inl M.2.2.2.2.2.2.2.2))]) (pc := 30) hx hb hK.1 hP hD hS 1 1 rfl rfl hp rfl rfl dX6_putSetting_30 (fun H locs hP hD hS => ?_)
    refine lv_iload (pc := 31) hx hb dX6_putSetting_31 (lv_at hl 0 rfl) ?_
    subst ex3
    subst er1
    have hfn : fX6_putSetting M pl v up = _ := if_neg c_2
    rw [hfn] at hQ
    exact hQ _ _ _ _ _ rfl hP hD hS dX6_putSetting_33
  · refine lv_ldc (v := (-10000002)) (pc := 11) hx hb hown (hts _ mm_X6_putSetting_1) dX6_putSetting_11 ?_
    subst er1
    have hfn : fX6_putSetting M pl v up = _ := if_pos c_2
    rw [hfn] at hQ
    exact hQ _ _ _ _ _ rfl hP hD hS dX6_putSetting_13

def fX6_putPoint (M : Mdl) (k : Int32) (v : Int32) : Int32 × (Mdl) :=
  let r1 : Int32 := fX6_in k.toInt64 0 10
  if r1 = 0 then
    ((-10000002), M)
  else
    let r3 : Int32 := fX6_in v.toInt64 0 9999
    if r3 = 0 then
      ((-10000002), M)
    else
      if k ≤ 0 then
        if 10 ≤ k then
          let x7 : Int32 := (M.2.2.1 ((13 + k).toNatClampNeg)).toInt32
          (x7, (M.1, M.2.1, (vp_updL M.2.2.1 ((13 + k).toNatClampNeg) v.toInt64), M.2.2.2.1, M.2.2.2.2.1, M.2.2.2.2.2.1, M.2.2.2.2.2.2.1, M.2.2.2.2.2.2.2.1, M.2.2.2.2.2.2.2.2))
        else
          if v.toInt64 < (M.2.2.1 (((13 + k) + 1).toNatClampNeg)) then
            let x9 : Int32 := (M.2.2.1 ((13 + k).toNatClampNeg)).toInt32
            (x9, (M.1, M.2.1, (vp_updL M.2.2.1 ((13 + k).toNatClampNeg) v.toInt64), M.2.2.2.1, M.2.2.2.2.1, M.2.2.2.2.2.1, M.2.2.2.2.2.2.1, M.2.2.2.2.2.2.2.1, M.2.2.2.2.2.2.2.2))
          else
            ((-10000003), M)
      else
        if v.toInt64 ≤ (M.2.2.1 (((13 + k) - 1).toNatClampNeg)) then
          ((-10000003), M)
        else
          if 10 ≤ k then
            let x12 : Int32 := (M.2.2.1 ((13 + k).toNatClampNeg)).toInt32
            (x12, (M.1, M.2.1, (vp_updL M.2.2.1 ((13 + k).toNatClampNeg) v.toInt64), M.2.2.2.1, M.2.2.2.2.1, M.2.2.2.2.2.1, M.2.2.2.2.2.2.1, M.2.2.2.2.2.2.2.1, M.2.2.2.2.2.2.2.2))
          else
            if v.toInt64 < (M.2.2.1 (((13 + k) + 1).toNatClampNeg)) then
              let x14 : Int32 := (M.2.2.1 ((13 + k).toNatClampNeg)).toInt32
              (x14, (M.1, M.2.1, (vp_updL M.2.2.1 ((13 + k).toNatClampNeg) v.toInt64), M.2.2.2.1, M.2.2.2.2.1, M.2.2.2.2.2.1, M.2.2.2.2.2.2.1, M.2.2.2.2.2.2.2.1, M.2.2.2.2.2.2.2.2))
            else
              ((-10000003), M)
abbrev rX6_putPoint : Room := { frames := 1, cells := 0, slots := 0, locals := 25 }
theorem mm_X6_putPoint_1 : Cond.constantLong RX6 40 (10) ∈ wsX6_putPoint := List.mem_of_getElem? (i := 1) rfl
theorem mm_X6_putPoint_3 : Cond.constant RX6 44 (-10000002) ∈ wsX6_putPoint := List.mem_of_getElem? (i := 3) rfl
theorem mm_X6_putPoint_2 : Cond.constantLong RX6 73 (9999) ∈ wsX6_putPoint := List.mem_of_getElem? (i := 2) rfl
theorem mm_X6_putPoint_4 : Cond.fieldLink RX6 7 "GaugeBoundsModel" "now" "[J" ∈ wsX6_putPoint := List.mem_of_getElem? (i := 4) rfl
theorem mm_X6_putPoint_5 : Cond.constant RX6 49 (-10000003) ∈ wsX6_putPoint := List.mem_of_getElem? (i := 5) rfl
theorem ii_X6_putPoint_X6 : ∀ w ∈ wsX60, w ∈ wsX6_putPoint := fun _ h => List.mem_cons_of_mem _ (List.mem_append_right _ (h))
theorem qvX6_putPoint : yX6_putPoint.cls = RX6 ∧ yX6_putPoint.cls ≠ "java/lang/invoke/MethodHandle" ∧ yX6_putPoint.cls ≠ "java/lang/invoke/VarHandle" ∧ (parseMethodDescriptor yX6_putPoint.desc).map (fun d => d.parameters.length) = some 2 := by decide +kernel
set_option maxHeartbeats 4000000 in
set_option maxRecDepth 100000 in
theorem kX6_putPoint (l : Launch) (E : gEnv) (a : Nat → Nat) (M : Mdl) (k : Int32) (v : Int32) : gMi l E yX6_putPoint wsX6_putPoint rX6_putPoint [.ref (a 0), .int k, .int v] (wM E a M) (fX6_putPoint M k v).1 (wM E a ((fX6_putPoint M k v).2)) := by
  refine gMi_of (cc := cX6_putPoint) (maxL := 4) (ret := (some .int)) (by decide) rfl rfl (Nat.le_of_ble_eq_true rfl) ?_
  intro p e s m args below meth c A Q ls hB hQ
  obtain ⟨hx, hb, hml, hown, hts, hK, hP, hD, hA, hS, hl⟩ := hB
  have hown : s.vm.findClass RX6 = some m.cls := hown
  have hP : va_P E.1 vwCl [(a 0, .inr (6, [.ref (a 1), .ref (a 2), .ref (a 3), .int (M.1 0), .ref (a 4), .ref (a 5), .int (M.1 1), .int (M.1 2), .int (M.1 3), .ref (a 6), .ref (a 7), .int (M.1 4), .int (M.1 5), .int (M.1 6), .long M.2.1])), (a 1, .inl (eJ E, 68, .inr (.inl M.2.2.1))), (a 2, .inl (eJ E, 68, .inr (.inl M.2.2.2.1))), (a 3, .inl (eJ E, 340, .inr (.inl M.2.2.2.2.1))), (a 4, .inl (eI E, 3, .inl M.2.2.2.2.2.1)), (a 5, .inl (eI E, 120, .inl M.2.2.2.2.2.2.1)), (a 6, .inl (eI E, 60, .inl M.2.2.2.2.2.2.2.1)), (a 7, .inl (eI E, 120, .inl M.2.2.2.2.2.2.2.2))] s.heap := hP
  have hD : va_D A [(a 0, .inr (6, [.ref (a 1), .ref (a 2), .ref (a 3), .int (M.1 0), .ref (a 4), .ref (a 5), .int (M.1 1), .int (M.1 2), .int (M.1 3), .ref (a 6), .ref (a 7), .int (M.1 4), .int (M.1 5), .int (M.1 6), .long M.2.1])), (a 1, .inl (eJ E, 68, .inr (.inl M.2.2.1))), (a 2, .inl (eJ E, 68, .inr (.inl M.2.2.2.1))), (a 3, .inl (eJ E, 340, .inr (.inl M.2.2.2.2.1))), (a 4, .inl (eI E, 3, .inl M.2.2.2.2.2.1)), (a 5, .inl (eI E, 120, .inl M.2.2.2.2.2.2.1)), (a 6, .inl (eI E, 60, .inl M.2.2.2.2.2.2.2.1)), (a 7, .inl (eI E, 120, .inl M.2.2.2.2.2.2.2.2))] := hD
  have hl : lv_has ls 4 [(0, .ref (a 0)), (1, .int k), (2, .int v)] := hl
  refine lv_iload_n (pc := 0) hx hb dX6_putPoint_0 rfl (lv_at hl 1 rfl) ?_
  refine lv_i2l (v := k.toInt64) (pc := 1) hx hb dX6_putPoint_1 rfl ?_
  refine lv_lconst (v := 0) (pc := 2) hx hb dX6_putPoint_2 rfl ?_
  refine lv_ldc2 (v := (10)) (pc := 3) hx hb hown (hts _ mm_X6_putPoint_1) dX6_putPoint_3 ?_
  obtain ⟨r1, er1⟩ : ∃ z : Int32, fX6_in k.toInt64 0 10 = z := ⟨_, rfl⟩
  have hr1 := kX6_in l E k.toInt64 0 10
  rw [er1] at hr1
  refine gcSi (pc := 6) (As := [.long k.toInt64, .long 0, .long 10]) (rest := []) ⟨hx, hb, hml, hown, hts⟩ hr1 (cwS 3 hts gX6_putPoint_X6_in rfl rfl rfl qsX6_in ⟨Nat.le_of_ble_eq_true rfl, Nat.le_of_ble_eq_true rfl⟩) hK hP hD hS hA rfl hl.1 rfl (Nat.le_of_ble_eq_true rfl) dX6_putPoint_6 ⟨Nat.zero_le _, Nat.zero_le _⟩ (fun H locs hP hD hS => ?_)
  refine lv_if_eq (tgt := 24) (pc := 9) hx hb dX6_putPoint_9 (by decide) (fun c_2 => ?_) (fun c_2 => ?_)
  · refine lv_ldc (v := (-10000002)) (pc := 24) hx hb hown (hts _ mm_X6_putPoint_3) dX6_putPoint_24 ?_
    subst er1
    have hfn : fX6_putPoint M k v = _ := if_pos c_2
    rw [hfn] at hQ
    exact hQ _ _ _ _ _ rfl hP hD hS dX6_putPoint_26
  · refine lv_iload_n (pc := 12) hx hb dX6_putPoint_12 rfl (lv_at hl 2 rfl) ?_
    refine lv_i2l (v := v.toInt64) (pc := 13) hx hb dX6_putPoint_13 rfl ?_
    refine lv_lconst (v := 0) (pc := 14) hx hb dX6_putPoint_14 rfl ?_
    refine lv_ldc2 (v := (9999)) (pc := 15) hx hb hown (hts _ mm_X6_putPoint_2) dX6_putPoint_15 ?_
    obtain ⟨r3, er3⟩ : ∃ z : Int32, fX6_in v.toInt64 0 9999 = z := ⟨_, rfl⟩
    have hr3 := kX6_in l E v.toInt64 0 9999
    rw [er3] at hr3
    refine gcSi (pc := 18) (As := [.long v.toInt64, .long 0, .long 9999]) (rest := []) ⟨hx, hb, hml, hown, hts⟩ hr3 (cwS 3 hts gX6_putPoint_X6_in rfl rfl rfl qsX6_in ⟨Nat.le_of_ble_eq_true rfl, Nat.le_of_ble_eq_true rfl⟩) hK hP hD hS hA rfl hl.1 rfl (Nat.le_of_ble_eq_true rfl) dX6_putPoint_18 ⟨Nat.zero_le _, Nat.zero_le _⟩ (fun H locs hP hD hS => ?_)
    refine lv_if_ne (tgt := 27) (pc := 21) hx hb dX6_putPoint_21 (by decide) (fun c_4 => ?_) (fun c_4 => ?_)
    · refine lv_iload_n (pc := 27) hx hb dX6_putPoint_27 rfl (lv_at hl 1 rfl) ?_
      refine lv_if_le (tgt := 48) (pc := 28) hx hb dX6_putPoint_28 (by decide) (fun c_5 => ?_) (fun c_5 => ?_)
      · refine lv_iload_n (pc := 48) hx hb dX6_putPoint_48 rfl (lv_at hl 1 rfl) ?_
        refine lv_bipush (v := 10) (pc := 49) hx hb dX6_putPoint_49 rfl ?_
        refine lv_icmp_ge (tgt := 74) (pc := 51) hx hb dX6_putPoint_51 (by decide) (fun c_6 => ?_) (fun c_6 => ?_)
        · refine lv_aload_n (pc := 74) hx hb dX6_putPoint_74 rfl (lv_at hl 0 rfl) ?_
          refine g_get (v := .ref (a 1)) (pc := 75) hx hb hts ii_X6_putPoint_X6 hown hK.1 hP 0 rfl rfl 0 (by decide) ⟨rfl, rfl, rfl⟩ mm_X6_putPoint_4 rfl dX6_putPoint_75 ?_
          refine lv_bipush (v := 13) (pc := 78) hx hb dX6_putPoint_78 rfl ?_
          refine lv_iload_n (pc := 80) hx hb dX6_putPoint_80 rfl (lv_at hl 1 rfl) ?_
          refine lv_iadd (pc := 81) hx hb dX6_putPoint_81 ?_
          refine g_lald (j := (13 + k).toNatClampNeg) (v := (M.2.2.1 ((13 + k).toNatClampNeg))) (pc := 82) hx hb hK.1 hP 1 1 rfl rfl (by have h1 : 0 ≤ k.toInt ∧ k.toInt ≤ 10 := (by subst er1; exact in_i c_2); exact ix_o1 13 (by decide) (by omega) (by simp only [Int32.reduceToInt]; omega) (by decide)) rfl rfl dX6_putPoint_82 ?_
          refine lv_l2i (v := (M.2.2.1 ((13 + k).toNatClampNeg)).toInt32) (pc := 83) hx hb dX6_putPoint_83 rfl ?_
          refine g_topi (fun x7 ex7 => ?_)
          refine lv_istore_n (lv' := [(3, .int x7), (0, .ref (a 0)), (1, .int k), (2, .int v)]) (pc := 84) hx hb dX6_putPoint_84 rfl hl (by decide) rfl (fun ls hl => ?_)
          refine lv_aload_n (pc := 85) hx hb dX6_putPoint_85 rfl (lv_at hl 1 rfl) ?_
          refine g_get (v := .ref (a 1)) (pc := 86) hx hb hts ii_X6_putPoint_X6 hown hK.1 hP 0 rfl rfl 0 (by decide) ⟨rfl, rfl, rfl⟩ mm_X6_putPoint_4 rfl dX6_putPoint_86 ?_
          refine lv_bipush (v := 13) (pc := 89) hx hb dX6_putPoint_89 rfl ?_
          refine lv_iload_n (pc := 91) hx hb dX6_putPoint_91 rfl (lv_at hl 2 rfl) ?_
          refine lv_iadd (pc := 92) hx hb dX6_putPoint_92 ?_
          refine lv_iload_n (pc := 93) hx hb dX6_putPoint_93 rfl (lv_at hl 3 rfl) ?_
          refine lv_i2l (v := v.toInt64) (pc := 94) hx hb dX6_putPoint_94 rfl ?_
          refine g_last (j := (13 + k).toNatClampNeg) (w1 := [(a 0, .inr (6, [.ref (a 1), .ref (a 2), .ref (a 3), .int (M.1 0), .ref (a 4), .ref (a 5), .int (M.1 1), .int (M.1 2), .int (M.1 3), .ref (a 6), .ref (a 7), .int (M.1 4), .int (M.1 5), .int (M.1 6), .long M.2.1])), (a 1, .inl (eJ E, 68, .inr (.inl (vp_updL M.2.2.1 ((13 + k).toNatClampNeg) v.toInt64)))), (a 2, .inl (eJ E, 68, .inr (.inl M.2.2.2.1))), (a 3, .inl (eJ E, 340, .inr (.inl M.2.2.2.2.1))), (a 4, .inl (eI E, 3, .inl M.2.2.2.2.2.1)), (a 5, .inl (eI E, 120, .inl M.2.2.2.2.2.2.1)), (a 6, .inl (eI E, 60, .inl M.2.2.2.2.2.2.2.1)), (a 7, .inl (eI E, 120, .inl M.2.2.2.2.2.2.2.2))]) (pc := 95) hx hb hK.1 hP hD hS 1 1 rfl rfl (by have h1 : 0 ≤ k.toInt ∧ k.toInt ≤ 10 := (by subst er1; exact in_i c_2); exact ix_o1 13 (by decide) (by omega) (by simp only [Int32.reduceToInt]; omega) (by decide)) rfl rfl dX6_putPoint_95 (fun H locs hP hD hS => ?_)
          refine lv_iload_n (pc := 96) hx hb dX6_putPoint_96 rfl (lv_at hl 0 rfl) ?_
          subst ex7
          subst er3
          subst er1
          have hfn : fX6_putPoint M k v = _ := (if_neg c_2).trans ((if_neg c_4).trans ((if_pos c_5).trans (if_pos c_6)))
          rw [hfn] at hQ
          exact hQ _ _ _ _ _ rfl hP hD hS dX6_putPoint_97
        · refine lv_aload_n (pc := 54) hx hb dX6_putPoint_54 rfl (lv_at hl 0 rfl) ?_
          refine g_get (v := .ref (a 1)) (pc := 55) hx hb hts ii_X6_putPoint_X6 hown hK.1 hP 0 rfl rfl 0 (by decide) ⟨rfl, rfl, rfl⟩ mm_X6_putPoint_4 rfl dX6_putPoint_55 ?_
          refine lv_bipush (v := 13) (pc := 58) hx hb dX6_putPoint_58 rfl ?_
          refine lv_iload_n (pc := 60) hx hb dX6_putPoint_60 rfl (lv_at hl 1 rfl) ?_
          refine lv_iadd (pc := 61) hx hb dX6_putPoint_61 ?_
          refine lv_iconst (v := 1) (pc := 62) hx hb dX6_putPoint_62 rfl ?_
          refine lv_iadd (pc := 63) hx hb dX6_putPoint_63 ?_
          refine g_lald (j := ((13 + k) + 1).toNatClampNeg) (v := (M.2.2.1 (((13 + k) + 1).toNatClampNeg))) (pc := 64) hx hb hK.1 hP 1 1 rfl rfl (by have h1 : 0 ≤ k.toInt ∧ k.toInt ≤ 10 := (by subst er1; exact in_i c_2); exact ix_o2 13 1 (by decide) (by decide) (by omega) (by simp only [Int32.reduceToInt]; omega) (by decide)) rfl rfl dX6_putPoint_64 ?_
          refine lv_iload_n (pc := 65) hx hb dX6_putPoint_65 rfl (lv_at hl 2 rfl) ?_
          refine lv_i2l (v := v.toInt64) (pc := 66) hx hb dX6_putPoint_66 rfl ?_
          refine gl_gt (tgt := 74) (pc := 67) hx hb dX6_putPoint_67 dX6_putPoint_68 rfl (fun c_8 => ?_) (fun c_8 => ?_)
          · refine lv_aload_n (pc := 74) hx hb dX6_putPoint_74 rfl (lv_at hl 0 rfl) ?_
            refine g_get (v := .ref (a 1)) (pc := 75) hx hb hts ii_X6_putPoint_X6 hown hK.1 hP 0 rfl rfl 0 (by decide) ⟨rfl, rfl, rfl⟩ mm_X6_putPoint_4 rfl dX6_putPoint_75 ?_
            refine lv_bipush (v := 13) (pc := 78) hx hb dX6_putPoint_78 rfl ?_
            refine lv_iload_n (pc := 80) hx hb dX6_putPoint_80 rfl (lv_at hl 1 rfl) ?_
            refine lv_iadd (pc := 81) hx hb dX6_putPoint_81 ?_
            refine g_lald (j := (13 + k).toNatClampNeg) (v := (M.2.2.1 ((13 + k).toNatClampNeg))) (pc := 82) hx hb hK.1 hP 1 1 rfl rfl (by have h1 : 0 ≤ k.toInt ∧ k.toInt ≤ 10 := (by subst er1; exact in_i c_2); exact ix_o1 13 (by decide) (by omega) (by simp only [Int32.reduceToInt]; omega) (by decide)) rfl rfl dX6_putPoint_82 ?_
            refine lv_l2i (v := (M.2.2.1 ((13 + k).toNatClampNeg)).toInt32) (pc := 83) hx hb dX6_putPoint_83 rfl ?_
            refine g_topi (fun x9 ex9 => ?_)
            refine lv_istore_n (lv' := [(3, .int x9), (0, .ref (a 0)), (1, .int k), (2, .int v)]) (pc := 84) hx hb dX6_putPoint_84 rfl hl (by decide) rfl (fun ls hl => ?_)
            refine lv_aload_n (pc := 85) hx hb dX6_putPoint_85 rfl (lv_at hl 1 rfl) ?_
            refine g_get (v := .ref (a 1)) (pc := 86) hx hb hts ii_X6_putPoint_X6 hown hK.1 hP 0 rfl rfl 0 (by decide) ⟨rfl, rfl, rfl⟩ mm_X6_putPoint_4 rfl dX6_putPoint_86 ?_
            refine lv_bipush (v := 13) (pc := 89) hx hb dX6_putPoint_89 rfl ?_
            refine lv_iload_n (pc := 91) hx hb dX6_putPoint_91 rfl (lv_at hl 2 rfl) ?_
            refine lv_iadd (pc := 92) hx hb dX6_putPoint_92 ?_
            refine lv_iload_n (pc := 93) hx hb dX6_putPoint_93 rfl (lv_at hl 3 rfl) ?_
            refine lv_i2l (v := v.toInt64) (pc := 94) hx hb dX6_putPoint_94 rfl ?_
            refine g_last (j := (13 + k).toNatClampNeg) (w1 := [(a 0, .inr (6, [.ref (a 1), .ref (a 2), .ref (a 3), .int (M.1 0), .ref (a 4), .ref (a 5), .int (M.1 1), .int (M.1 2), .int (M.1 3), .ref (a 6), .ref (a 7), .int (M.1 4), .int (M.1 5), .int (M.1 6), .long M.2.1])), (a 1, .inl (eJ E, 68, .inr (.inl (vp_updL M.2.2.1 ((13 + k).toNatClampNeg) v.toInt64)))), (a 2, .inl (eJ E, 68, .inr (.inl M.2.2.2.1))), (a 3, .inl (eJ E, 340, .inr (.inl M.2.2.2.2.1))), (a 4, .inl (eI E, 3, .inl M.2.2.2.2.2.1)), (a 5, .inl (eI E, 120, .inl M.2.2.2.2.2.2.1)), (a 6, .inl (eI E, 60, .inl M.2.2.2.2.2.2.2.1)), (a 7, .inl (eI E, 120, .inl M.2.2.2.2.2.2.2.2))]) (pc := 95) hx hb hK.1 hP hD hS 1 1 rfl rfl (by have h1 : 0 ≤ k.toInt ∧ k.toInt ≤ 10 := (by subst er1; exact in_i c_2); exact ix_o1 13 (by decide) (by omega) (by simp only [Int32.reduceToInt]; omega) (by decide)) rfl rfl dX6_putPoint_95 (fun H locs hP hD hS => ?_)
            refine lv_iload_n (pc := 96) hx hb dX6_putPoint_96 rfl (lv_at hl 0 rfl) ?_
            subst ex9
            subst er3
            subst er1
            have hfn : fX6_putPoint M k v = _ := (if_neg c_2).trans ((if_neg c_4).trans ((if_pos c_5).trans ((if_neg c_6).trans (if_pos c_8))))
            rw [hfn] at hQ
            exact hQ _ _ _ _ _ rfl hP hD hS dX6_putPoint_97
          · refine lv_ldc (v := (-10000003)) (pc := 71) hx hb hown (hts _ mm_X6_putPoint_5) dX6_putPoint_71 ?_
            subst er3
            subst er1
            have hfn : fX6_putPoint M k v = _ := (if_neg c_2).trans ((if_neg c_4).trans ((if_pos c_5).trans ((if_neg c_6).trans (if_neg c_8))))
            rw [hfn] at hQ
            exact hQ _ _ _ _ _ rfl hP hD hS dX6_putPoint_73
      · refine lv_aload_n (pc := 31) hx hb dX6_putPoint_31 rfl (lv_at hl 0 rfl) ?_
        refine g_get (v := .ref (a 1)) (pc := 32) hx hb hts ii_X6_putPoint_X6 hown hK.1 hP 0 rfl rfl 0 (by decide) ⟨rfl, rfl, rfl⟩ mm_X6_putPoint_4 rfl dX6_putPoint_32 ?_
        refine lv_bipush (v := 13) (pc := 35) hx hb dX6_putPoint_35 rfl ?_
        refine lv_iload_n (pc := 37) hx hb dX6_putPoint_37 rfl (lv_at hl 1 rfl) ?_
        refine lv_iadd (pc := 38) hx hb dX6_putPoint_38 ?_
        refine lv_iconst (v := 1) (pc := 39) hx hb dX6_putPoint_39 rfl ?_
        refine lv_isub (pc := 40) hx hb dX6_putPoint_40 ?_
        refine g_lald (j := ((13 + k) - 1).toNatClampNeg) (v := (M.2.2.1 (((13 + k) - 1).toNatClampNeg))) (pc := 41) hx hb hK.1 hP 1 1 rfl rfl (by have h1 : 0 ≤ k.toInt ∧ k.toInt ≤ 10 := (by subst er1; exact in_i c_2); have h2 : ¬ k.toInt ≤ 0 := (by have h3 := c_5; rw [Int32.le_iff_toInt_le] at h3; simpa using h3); exact ix_o3 13 1 (by decide) (by decide) (by omega) (by simp only [Int32.reduceToInt]; omega) (by simp only [Int32.reduceToInt]; omega) (by omega)) rfl rfl dX6_putPoint_41 ?_
        refine lv_iload_n (pc := 42) hx hb dX6_putPoint_42 rfl (lv_at hl 2 rfl) ?_
        refine lv_i2l (v := v.toInt64) (pc := 43) hx hb dX6_putPoint_43 rfl ?_
        refine gl_ge (tgt := 71) (pc := 44) hx hb dX6_putPoint_44 dX6_putPoint_45 rfl (fun c_10 => ?_) (fun c_10 => ?_)
        · refine lv_ldc (v := (-10000003)) (pc := 71) hx hb hown (hts _ mm_X6_putPoint_5) dX6_putPoint_71 ?_
          subst er3
          subst er1
          have hfn : fX6_putPoint M k v = _ := (if_neg c_2).trans ((if_neg c_4).trans ((if_neg c_5).trans (if_pos c_10)))
          rw [hfn] at hQ
          exact hQ _ _ _ _ _ rfl hP hD hS dX6_putPoint_73
        · refine lv_iload_n (pc := 48) hx hb dX6_putPoint_48 rfl (lv_at hl 1 rfl) ?_
          refine lv_bipush (v := 10) (pc := 49) hx hb dX6_putPoint_49 rfl ?_
          refine lv_icmp_ge (tgt := 74) (pc := 51) hx hb dX6_putPoint_51 (by decide) (fun c_11 => ?_) (fun c_11 => ?_)
          · refine lv_aload_n (pc := 74) hx hb dX6_putPoint_74 rfl (lv_at hl 0 rfl) ?_
            refine g_get (v := .ref (a 1)) (pc := 75) hx hb hts ii_X6_putPoint_X6 hown hK.1 hP 0 rfl rfl 0 (by decide) ⟨rfl, rfl, rfl⟩ mm_X6_putPoint_4 rfl dX6_putPoint_75 ?_
            refine lv_bipush (v := 13) (pc := 78) hx hb dX6_putPoint_78 rfl ?_
            refine lv_iload_n (pc := 80) hx hb dX6_putPoint_80 rfl (lv_at hl 1 rfl) ?_
            refine lv_iadd (pc := 81) hx hb dX6_putPoint_81 ?_
            refine g_lald (j := (13 + k).toNatClampNeg) (v := (M.2.2.1 ((13 + k).toNatClampNeg))) (pc := 82) hx hb hK.1 hP 1 1 rfl rfl (by have h1 : 0 ≤ k.toInt ∧ k.toInt ≤ 10 := (by subst er1; exact in_i c_2); exact ix_o1 13 (by decide) (by omega) (by simp only [Int32.reduceToInt]; omega) (by decide)) rfl rfl dX6_putPoint_82 ?_
            refine lv_l2i (v := (M.2.2.1 ((13 + k).toNatClampNeg)).toInt32) (pc := 83) hx hb dX6_putPoint_83 rfl ?_
            refine g_topi (fun x12 ex12 => ?_)
            refine lv_istore_n (lv' := [(3, .int x12), (0, .ref (a 0)), (1, .int k), (2, .int v)]) (pc := 84) hx hb dX6_putPoint_84 rfl hl (by decide) rfl (fun ls hl => ?_)
            refine lv_aload_n (pc := 85) hx hb dX6_putPoint_85 rfl (lv_at hl 1 rfl) ?_
            refine g_get (v := .ref (a 1)) (pc := 86) hx hb hts ii_X6_putPoint_X6 hown hK.1 hP 0 rfl rfl 0 (by decide) ⟨rfl, rfl, rfl⟩ mm_X6_putPoint_4 rfl dX6_putPoint_86 ?_
            refine lv_bipush (v := 13) (pc := 89) hx hb dX6_putPoint_89 rfl ?_
            refine lv_iload_n (pc := 91) hx hb dX6_putPoint_91 rfl (lv_at hl 2 rfl) ?_
            refine lv_iadd (pc := 92) hx hb dX6_putPoint_92 ?_
            refine lv_iload_n (pc := 93) hx hb dX6_putPoint_93 rfl (lv_at hl 3 rfl) ?_
            refine lv_i2l (v := v.toInt64) (pc := 94) hx hb dX6_putPoint_94 rfl ?_
            refine g_last (j := (13 + k).toNatClampNeg) (w1 := [(a 0, .inr (6, [.ref (a 1), .ref (a 2), .ref (a 3), .int (M.1 0), .ref (a 4), .ref (a 5), .int (M.1 1), .int (M.1 2), .int (M.1 3), .ref (a 6), .ref (a 7), .int (M.1 4), .int (M.1 5), .int (M.1 6), .long M.2.1])), (a 1, .inl (eJ E, 68, .inr (.inl (vp_updL M.2.2.1 ((13 + k).toNatClampNeg) v.toInt64)))), (a 2, .inl (eJ E, 68, .inr (.inl M.2.2.2.1))), (a 3, .inl (eJ E, 340, .inr (.inl M.2.2.2.2.1))), (a 4, .inl (eI E, 3, .inl M.2.2.2.2.2.1)), (a 5, .inl (eI E, 120, .inl M.2.2.2.2.2.2.1)), (a 6, .inl (eI E, 60, .inl M.2.2.2.2.2.2.2.1)), (a 7, .inl (eI E, 120, .inl M.2.2.2.2.2.2.2.2))]) (pc := 95) hx hb hK.1 hP hD hS 1 1 rfl rfl (by have h1 : 0 ≤ k.toInt ∧ k.toInt ≤ 10 := (by subst er1; exact in_i c_2); exact ix_o1 13 (by decide) (by omega) (by simp only [Int32.reduceToInt]; omega) (by decide)) rfl rfl dX6_putPoint_95 (fun H locs hP hD hS => ?_)
            refine lv_iload_n (pc := 96) hx hb dX6_putPoint_96 rfl (lv_at hl 0 rfl) ?_
            subst ex12
            subst er3
            subst er1
            have hfn : fX6_putPoint M k v = _ := (if_neg c_2).trans ((if_neg c_4).trans ((if_neg c_5).trans ((if_neg c_10).trans (if_pos c_11))))
            rw [hfn] at hQ
            exact hQ _ _ _ _ _ rfl hP hD hS dX6_putPoint_97
          · refine lv_aload_n (pc := 54) hx hb dX6_putPoint_54 rfl (lv_at hl 0 rfl) ?_
            refine g_get (v := .ref (a 1)) (pc := 55) hx hb hts ii_X6_putPoint_X6 hown hK.1 hP 0 rfl rfl 0 (by decide) ⟨rfl, rfl, rfl⟩ mm_X6_putPoint_4 rfl dX6_putPoint_55 ?_
            refine lv_bipush (v := 13) (pc := 58) hx hb dX6_putPoint_58 rfl ?_
            refine lv_iload_n (pc := 60) hx hb dX6_putPoint_60 rfl (lv_at hl 1 rfl) ?_
            refine lv_iadd (pc := 61) hx hb dX6_putPoint_61 ?_
            refine lv_iconst (v := 1) (pc := 62) hx hb dX6_putPoint_62 rfl ?_
            refine lv_iadd (pc := 63) hx hb dX6_putPoint_63 ?_
            refine g_lald (j := ((13 + k) + 1).toNatClampNeg) (v := (M.2.2.1 (((13 + k) + 1).toNatClampNeg))) (pc := 64) hx hb hK.1 hP 1 1 rfl rfl (by have h1 : 0 ≤ k.toInt ∧ k.toInt ≤ 10 := (by subst er1; exact in_i c_2); exact ix_o2 13 1 (by decide) (by decide) (by omega) (by simp only [Int32.reduceToInt]; omega) (by decide)) rfl rfl dX6_putPoint_64 ?_
            refine lv_iload_n (pc := 65) hx hb dX6_putPoint_65 rfl (lv_at hl 2 rfl) ?_
            refine lv_i2l (v := v.toInt64) (pc := 66) hx hb dX6_putPoint_66 rfl ?_
            refine gl_gt (tgt := 74) (pc := 67) hx hb dX6_putPoint_67 dX6_putPoint_68 rfl (fun c_13 => ?_) (fun c_13 => ?_)
            · refine lv_aload_n (pc := 74) hx hb dX6_putPoint_74 rfl (lv_at hl 0 rfl) ?_
              refine g_get (v := .ref (a 1)) (pc := 75) hx hb hts ii_X6_putPoint_X6 hown hK.1 hP 0 rfl rfl 0 (by decide) ⟨rfl, rfl, rfl⟩ mm_X6_putPoint_4 rfl dX6_putPoint_75 ?_
              refine lv_bipush (v := 13) (pc := 78) hx hb dX6_putPoint_78 rfl ?_
              refine lv_iload_n (pc := 80) hx hb dX6_putPoint_80 rfl (lv_at hl 1 rfl) ?_
              refine lv_iadd (pc := 81) hx hb dX6_putPoint_81 ?_
              refine g_lald (j := (13 + k).toNatClampNeg) (v := (M.2.2.1 ((13 + k).toNatClampNeg))) (pc := 82) hx hb hK.1 hP 1 1 rfl rfl (by have h1 : 0 ≤ k.toInt ∧ k.toInt ≤ 10 := (by subst er1; exact in_i c_2); exact ix_o1 13 (by decide) (by omega) (by simp only [Int32.reduceToInt]; omega) (by decide)) rfl rfl dX6_putPoint_82 ?_
              refine lv_l2i (v := (M.2.2.1 ((13 + k).toNatClampNeg)).toInt32) (pc := 83) hx hb dX6_putPoint_83 rfl ?_
              refine g_topi (fun x14 ex14 => ?_)
              refine lv_istore_n (lv' := [(3, .int x14), (0, .ref (a 0)), (1, .int k), (2, .int v)]) (pc := 84) hx hb dX6_putPoint_84 rfl hl (by decide) rfl (fun ls hl => ?_)
              refine lv_aload_n (pc := 85) hx hb dX6_putPoint_85 rfl (lv_at hl 1 rfl) ?_
              refine g_get (v := .ref (a 1)) (pc := 86) hx hb hts ii_X6_putPoint_X6 hown hK.1 hP 0 rfl rfl 0 (by decide) ⟨rfl, rfl, rfl⟩ mm_X6_putPoint_4 rfl dX6_putPoint_86 ?_
              refine lv_bipush (v := 13) (pc := 89) hx hb dX6_putPoint_89 rfl ?_
              refine lv_iload_n (pc := 91) hx hb dX6_putPoint_91 rfl (lv_at hl 2 rfl) ?_
              refine lv_iadd (pc := 92) hx hb dX6_putPoint_92 ?_
              refine lv_iload_n (pc := 93) hx hb dX6_putPoint_93 rfl (lv_at hl 3 rfl) ?_
              refine lv_i2l (v := v.toInt64) (pc := 94) hx hb dX6_putPoint_94 rfl ?_
              refine g_last (j := (13 + k).toNatClampNeg) (w1 := [(a 0, .inr (6, [.ref (a 1), .ref (a 2), .ref (a 3), .int (M.1 0), .ref (a 4), .ref (a 5), .int (M.1 1), .int (M.1 2), .int (M.1 3), .ref (a 6), .ref (a 7), .int (M.1 4), .int (M.1 5), .int (M.1 6), .long M.2.1])), (a 1, .inl (eJ E, 68, .inr (.inl (vp_updL M.2.2.1 ((13 + k).toNatClampNeg) v.toInt64)))), (a 2, .inl (eJ E, 68, .inr (.inl M.2.2.2.1))), (a 3, .inl (eJ E, 340, .inr (.inl M.2.2.2.2.1))), (a 4, .inl (eI E, 3, .inl M.2.2.2.2.2.1)), (a 5, .inl (eI E, 120, .inl M.2.2.2.2.2.2.1)), (a 6, .inl (eI E, 60, .inl M.2.2.2.2.2.2.2.1)), (a 7, .inl (eI E, 120, .inl M.2.2.2.2.2.2.2.2))]) (pc := 95) hx hb hK.1 hP hD hS 1 1 rfl rfl (by have h1 : 0 ≤ k.toInt ∧ k.toInt ≤ 10 := (by subst er1; exact in_i c_2); exact ix_o1 13 (by decide) (by omega) (by simp only [Int32.reduceToInt]; omega) (by decide)) rfl rfl dX6_putPoint_95 (fun H locs hP hD hS => ?_)
              refine lv_iload_n (pc := 96) hx hb dX6_putPoint_96 rfl (lv_at hl 0 rfl) ?_
              subst ex14
              subst er3
              subst er1
              have hfn : fX6_putPoint M k v = _ := (if_neg c_2).trans ((if_neg c_4).trans ((if_neg c_5).trans ((if_neg c_10).trans ((if_neg c_11).trans (if_pos c_13)))))
              rw [hfn] at hQ
              exact hQ _ _ _ _ _ rfl hP hD hS dX6_putPoint_97
            · refine lv_ldc (v := (-10000003)) (pc := 71) hx hb hown (hts _ mm_X6_putPoint_5) dX6_putPoint_71 ?_
              subst er3
              subst er1
              have hfn : fX6_putPoint M k v = _ := (if_neg c_2).trans ((if_neg c_4).trans ((if_neg c_5).trans ((if_neg c_10).trans ((if_neg c_11).trans (if_neg c_13)))))
              rw [hfn] at hQ
              exact hQ _ _ _ _ _ rfl hP hD hS dX6_putPoint_73
    · refine lv_ldc (v := (-10000002)) (pc := 24) hx hb hown (hts _ mm_X6_putPoint_3) dX6_putPoint_24 ?_
      subst er3
      subst er1
      have hfn : fX6_putPoint M k v = _ := (if_neg c_2).trans (if_pos c_4)
      rw [hfn] at hQ
      exact hQ _ _ _ _ _ rfl hP hD hS dX6_putPoint_26

def fX6_shows (M : Mdl) (i : Int32) (n : Int32) : Mdl :=
  let r1 : Int32 := fX6_middle M.2.2.1
  let x2 : Int64 := (r1 / 10).toInt64
  let x4 : Nat → Int64 := (if i ≤ 0 then (if 0 ≤ i then M.2.2.1 else (let x6 : Int64 := (if x2 ≤ ((M.2.2.1 4) + n.toInt64) then x2 else ((M.2.2.1 4) + n.toInt64)); (let x9 : Int64 := (if x6 ≤ (M.2.2.1 4) then (M.2.2.1 4) else x6); (vp_updL M.2.2.1 4 x9)))) else (let x12 : Int64 := (if ((M.2.2.1 4) - n.toInt64) ≤ x2 then x2 else ((M.2.2.1 4) - n.toInt64)); (let x15 : Int64 := (if (M.2.2.1 4) ≤ x12 then (M.2.2.1 4) else x12); (vp_updL M.2.2.1 4 x15))))
  let x7 : Nat → Int64 := (if (x4 1) = 0 then (vp_updL x4 4 0) else x4)
  (M.1, M.2.1, x7, M.2.2.2.1, M.2.2.2.2.1, M.2.2.2.2.2.1, M.2.2.2.2.2.2.1, M.2.2.2.2.2.2.2.1, M.2.2.2.2.2.2.2.2)
abbrev rX6_shows : Room := { frames := 1, cells := 0, slots := 0, locals := 24 }
theorem mm_X6_shows_1 : Cond.fieldLink RX6 7 "GaugeBoundsModel" "now" "[J" ∈ wsX6_shows := List.mem_of_getElem? (i := 1) rfl
theorem ii_X6_shows_X6 : ∀ w ∈ wsX60, w ∈ wsX6_shows := fun _ h => List.mem_cons_of_mem _ (List.mem_append_right _ (h))
theorem qvX6_shows : yX6_shows.cls = RX6 ∧ yX6_shows.cls ≠ "java/lang/invoke/MethodHandle" ∧ yX6_shows.cls ≠ "java/lang/invoke/VarHandle" ∧ (parseMethodDescriptor yX6_shows.desc).map (fun d => d.parameters.length) = some 2 := by decide +kernel
set_option maxHeartbeats 4000000 in
set_option maxRecDepth 100000 in
theorem kX6_shows (l : Launch) (E : gEnv) (a : Nat → Nat) (M : Mdl) (i : Int32) (n : Int32) : gMv l E yX6_shows wsX6_shows rX6_shows [.ref (a 0), .int i, .int n] (wM E a M) (wM E a (fX6_shows M i n)) := by
  refine gMv_of (cc := cX6_shows) (maxL := 9) (ret := none) (by decide) rfl rfl (Nat.le_of_ble_eq_true rfl) ?_
  intro p e s m args below meth c A Q ls hB hQ
  obtain ⟨hx, hb, hml, hown, hts, hK, hP, hD, hA, hS, hl⟩ := hB
  have hown : s.vm.findClass RX6 = some m.cls := hown
  have hP : va_P E.1 vwCl [(a 0, .inr (6, [.ref (a 1), .ref (a 2), .ref (a 3), .int (M.1 0), .ref (a 4), .ref (a 5), .int (M.1 1), .int (M.1 2), .int (M.1 3), .ref (a 6), .ref (a 7), .int (M.1 4), .int (M.1 5), .int (M.1 6), .long M.2.1])), (a 1, .inl (eJ E, 68, .inr (.inl M.2.2.1))), (a 2, .inl (eJ E, 68, .inr (.inl M.2.2.2.1))), (a 3, .inl (eJ E, 340, .inr (.inl M.2.2.2.2.1))), (a 4, .inl (eI E, 3, .inl M.2.2.2.2.2.1)), (a 5, .inl (eI E, 120, .inl M.2.2.2.2.2.2.1)), (a 6, .inl (eI E, 60, .inl M.2.2.2.2.2.2.2.1)), (a 7, .inl (eI E, 120, .inl M.2.2.2.2.2.2.2.2))] s.heap := hP
  have hD : va_D A [(a 0, .inr (6, [.ref (a 1), .ref (a 2), .ref (a 3), .int (M.1 0), .ref (a 4), .ref (a 5), .int (M.1 1), .int (M.1 2), .int (M.1 3), .ref (a 6), .ref (a 7), .int (M.1 4), .int (M.1 5), .int (M.1 6), .long M.2.1])), (a 1, .inl (eJ E, 68, .inr (.inl M.2.2.1))), (a 2, .inl (eJ E, 68, .inr (.inl M.2.2.2.1))), (a 3, .inl (eJ E, 340, .inr (.inl M.2.2.2.2.1))), (a 4, .inl (eI E, 3, .inl M.2.2.2.2.2.1)), (a 5, .inl (eI E, 120, .inl M.2.2.2.2.2.2.1)), (a 6, .inl (eI E, 60, .inl M.2.2.2.2.2.2.2.1)), (a 7, .inl (eI E, 120, .inl M.2.2.2.2.2.2.2.2))] := hD
  have hl : lv_has ls 9 [(0, .ref (a 0)), (1, .int i), (2, .int n)] := hl
  refine lv_aload_n (pc := 0) hx hb dX6_shows_0 rfl (lv_at hl 0 rfl) ?_
  obtain ⟨r1, er1⟩ : ∃ z : Int32, fX6_middle M.2.2.1 = z := ⟨_, rfl⟩
  have hr1 := kX6_middle l E a M
  rw [er1] at hr1
  refine gcVi (pc := 1) (w1 := [(a 0, .inr (6, [.ref (a 1), .ref (a 2), .ref (a 3), .int (M.1 0), .ref (a 4), .ref (a 5), .int (M.1 1), .int (M.1 2), .int (M.1 3), .ref (a 6), .ref (a 7), .int (M.1 4), .int (M.1 5), .int (M.1 6), .long M.2.1])), (a 1, .inl (eJ E, 68, .inr (.inl M.2.2.1))), (a 2, .inl (eJ E, 68, .inr (.inl M.2.2.2.1))), (a 3, .inl (eJ E, 340, .inr (.inl M.2.2.2.2.1))), (a 4, .inl (eI E, 3, .inl M.2.2.2.2.2.1)), (a 5, .inl (eI E, 120, .inl M.2.2.2.2.2.2.1)), (a 6, .inl (eI E, 60, .inl M.2.2.2.2.2.2.2.1)), (a 7, .inl (eI E, 120, .inl M.2.2.2.2.2.2.2.2))]) (pre := []) (post := []) (As := []) (rest := []) (q0 := 0) ⟨hx, hb, hml, hown, hts⟩ hr1 (cwV 0 hts gX6_shows_X6_middle rfl rfl rfl qvX6_middle ⟨Nat.le_of_ble_eq_true rfl, Nat.le_of_ble_eq_true rfl⟩) hK hP hD hS hA rfl rfl rfl rfl rfl hl.1 rfl (Nat.le_of_ble_eq_true rfl) dX6_shows_1 ⟨Nat.zero_le _, Nat.zero_le _⟩ (fun H locs hP hD hS => ?_)
  refine lv_bipush (v := 10) (pc := 4) hx hb dX6_shows_4 rfl ?_
  refine lv_idiv (pc := 6) hx hb dX6_shows_6 (by decide) ?_
  refine lv_i2l (v := (r1 / 10).toInt64) (pc := 7) hx hb dX6_shows_7 rfl ?_
  refine g_topl (fun x2 ex2 => ?_)
  refine lv_lstore_n (lv' := [(3, .long x2), (0, .ref (a 0)), (1, .int i), (2, .int n)]) (pc := 8) hx hb dX6_shows_8 rfl hl (by decide) rfl (fun ls hl => ?_)
  refine lv_aload_n (pc := 9) hx hb dX6_shows_9 rfl (lv_at hl 1 rfl) ?_
  refine g_get (v := .ref (a 1)) (pc := 10) hx hb hts ii_X6_shows_X6 hown hK.1 hP 0 rfl rfl 0 (by decide) ⟨rfl, rfl, rfl⟩ mm_X6_shows_1 rfl dX6_shows_10 ?_
  refine lv_iconst (v := 4) (pc := 13) hx hb dX6_shows_13 rfl ?_
  refine g_lald (j := 4) (v := (M.2.2.1 4)) (pc := 14) hx hb hK.1 hP 1 1 rfl rfl (g_in (by decide +kernel)) rfl rfl dX6_shows_14 ?_
  refine lv_lstore (lv' := [(5, .long (M.2.2.1 4)), (3, .long x2), (0, .ref (a 0)), (1, .int i), (2, .int n)]) (pc := 15) hx hb dX6_shows_15 hl (by decide) rfl (fun ls hl => ?_)
  refine lv_iload_n (pc := 17) hx hb dX6_shows_17 rfl (lv_at hl 3 rfl) ?_
  have J_5 : ∀ (H : Heap) (locs : List Loc) (ls : Array Slot) (x4 : Nat → Int64), (if i ≤ 0 then (if 0 ≤ i then M.2.2.1 else (let x6 : Int64 := (if x2 ≤ ((M.2.2.1 4) + n.toInt64) then x2 else ((M.2.2.1 4) + n.toInt64)); (let x9 : Int64 := (if x6 ≤ (M.2.2.1 4) then (M.2.2.1 4) else x6); (vp_updL M.2.2.1 4 x9)))) else (let x12 : Int64 := (if ((M.2.2.1 4) - n.toInt64) ≤ x2 then x2 else ((M.2.2.1 4) - n.toInt64)); (let x15 : Int64 := (if (M.2.2.1 4) ≤ x12 then (M.2.2.1 4) else x12); (vp_updL M.2.2.1 4 x15)))) = x4 → va_P E.1 vwCl [(a 0, .inr (6, [.ref (a 1), .ref (a 2), .ref (a 3), .int (M.1 0), .ref (a 4), .ref (a 5), .int (M.1 1), .int (M.1 2), .int (M.1 3), .ref (a 6), .ref (a 7), .int (M.1 4), .int (M.1 5), .int (M.1 6), .long M.2.1])), (a 1, .inl (eJ E, 68, .inr (.inl x4))), (a 2, .inl (eJ E, 68, .inr (.inl M.2.2.2.1))), (a 3, .inl (eJ E, 340, .inr (.inl M.2.2.2.2.1))), (a 4, .inl (eI E, 3, .inl M.2.2.2.2.2.1)), (a 5, .inl (eI E, 120, .inl M.2.2.2.2.2.2.1)), (a 6, .inl (eI E, 60, .inl M.2.2.2.2.2.2.2.1)), (a 7, .inl (eI E, 120, .inl M.2.2.2.2.2.2.2.2))] H → va_D A [(a 0, .inr (6, [.ref (a 1), .ref (a 2), .ref (a 3), .int (M.1 0), .ref (a 4), .ref (a 5), .int (M.1 1), .int (M.1 2), .int (M.1 3), .ref (a 6), .ref (a 7), .int (M.1 4), .int (M.1 5), .int (M.1 6), .long M.2.1])), (a 1, .inl (eJ E, 68, .inr (.inl x4))), (a 2, .inl (eJ E, 68, .inr (.inl M.2.2.2.1))), (a 3, .inl (eJ E, 340, .inr (.inl M.2.2.2.2.1))), (a 4, .inl (eI E, 3, .inl M.2.2.2.2.2.1)), (a 5, .inl (eI E, 120, .inl M.2.2.2.2.2.2.1)), (a 6, .inl (eI E, 60, .inl M.2.2.2.2.2.2.2.1)), (a 7, .inl (eI E, 120, .inl M.2.2.2.2.2.2.2.2))] → va_S A s.heap H locs → lv_has ls 9 [(0, .ref (a 0)), (1, .int i), (2, .int n), (3, .long x2), (5, .long (M.2.2.1 4))] → W p l e rX6_shows s m args below meth c H locs 0 0 Q (F0 m 112 ls []) := by
    intro H locs ls x4 ex4 hP hD hS hl
    refine lv_aload_n (pc := 112) hx hb dX6_shows_112 rfl (lv_at hl 0 rfl) ?_
    refine g_get (v := .ref (a 1)) (pc := 113) hx hb hts ii_X6_shows_X6 hown hK.1 hP 0 rfl rfl 0 (by decide) ⟨rfl, rfl, rfl⟩ mm_X6_shows_1 rfl dX6_shows_113 ?_
    refine lv_iconst (v := 1) (pc := 116) hx hb dX6_shows_116 rfl ?_
    refine g_lald (j := 1) (v := (x4 1)) (pc := 117) hx hb hK.1 hP 1 1 rfl rfl (g_in (by decide +kernel)) rfl rfl dX6_shows_117 ?_
    refine lv_lconst (v := 0) (pc := 118) hx hb dX6_shows_118 rfl ?_
    have J_8 : ∀ (H : Heap) (locs : List Loc) (ls : Array Slot) (x7 : Nat → Int64), (if (x4 1) = 0 then (vp_updL x4 4 0) else x4) = x7 → va_P E.1 vwCl [(a 0, .inr (6, [.ref (a 1), .ref (a 2), .ref (a 3), .int (M.1 0), .ref (a 4), .ref (a 5), .int (M.1 1), .int (M.1 2), .int (M.1 3), .ref (a 6), .ref (a 7), .int (M.1 4), .int (M.1 5), .int (M.1 6), .long M.2.1])), (a 1, .inl (eJ E, 68, .inr (.inl x7))), (a 2, .inl (eJ E, 68, .inr (.inl M.2.2.2.1))), (a 3, .inl (eJ E, 340, .inr (.inl M.2.2.2.2.1))), (a 4, .inl (eI E, 3, .inl M.2.2.2.2.2.1)), (a 5, .inl (eI E, 120, .inl M.2.2.2.2.2.2.1)), (a 6, .inl (eI E, 60, .inl M.2.2.2.2.2.2.2.1)), (a 7, .inl (eI E, 120, .inl M.2.2.2.2.2.2.2.2))] H → va_D A [(a 0, .inr (6, [.ref (a 1), .ref (a 2), .ref (a 3), .int (M.1 0), .ref (a 4), .ref (a 5), .int (M.1 1), .int (M.1 2), .int (M.1 3), .ref (a 6), .ref (a 7), .int (M.1 4), .int (M.1 5), .int (M.1 6), .long M.2.1])), (a 1, .inl (eJ E, 68, .inr (.inl x7))), (a 2, .inl (eJ E, 68, .inr (.inl M.2.2.2.1))), (a 3, .inl (eJ E, 340, .inr (.inl M.2.2.2.2.1))), (a 4, .inl (eI E, 3, .inl M.2.2.2.2.2.1)), (a 5, .inl (eI E, 120, .inl M.2.2.2.2.2.2.1)), (a 6, .inl (eI E, 60, .inl M.2.2.2.2.2.2.2.1)), (a 7, .inl (eI E, 120, .inl M.2.2.2.2.2.2.2.2))] → va_S A s.heap H locs → lv_has ls 9 [(0, .ref (a 0)), (1, .int i), (2, .int n), (3, .long x2), (5, .long (M.2.2.1 4))] → W p l e rX6_shows s m args below meth c H locs 0 0 Q (F0 m 130 ls []) := by
      intro H locs ls x7 ex7 hP hD hS hl
      subst ex7
      subst ex4
      subst ex2
      subst er1
      exact hQ _ _ _ _ hP hD hS dX6_shows_130
    refine gl_ne (tgt := 130) (pc := 119) hx hb dX6_shows_119 dX6_shows_120 rfl (fun c_6 => ?_) (fun c_6 => ?_)
    · exact J_8 _ _ _ _ (if_neg c_6) hP hD hS (lv_sub hl [0, 1, 2, 3, 4] rfl)
    · refine lv_aload_n (pc := 123) hx hb dX6_shows_123 rfl (lv_at hl 0 rfl) ?_
      refine g_get (v := .ref (a 1)) (pc := 124) hx hb hts ii_X6_shows_X6 hown hK.1 hP 0 rfl rfl 0 (by decide) ⟨rfl, rfl, rfl⟩ mm_X6_shows_1 rfl dX6_shows_124 ?_
      refine lv_iconst (v := 4) (pc := 127) hx hb dX6_shows_127 rfl ?_
      refine lv_lconst (v := 0) (pc := 128) hx hb dX6_shows_128 rfl ?_
      refine g_last (j := 4) (w1 := [(a 0, .inr (6, [.ref (a 1), .ref (a 2), .ref (a 3), .int (M.1 0), .ref (a 4), .ref (a 5), .int (M.1 1), .int (M.1 2), .int (M.1 3), .ref (a 6), .ref (a 7), .int (M.1 4), .int (M.1 5), .int (M.1 6), .long M.2.1])), (a 1, .inl (eJ E, 68, .inr (.inl (vp_updL x4 4 0)))), (a 2, .inl (eJ E, 68, .inr (.inl M.2.2.2.1))), (a 3, .inl (eJ E, 340, .inr (.inl M.2.2.2.2.1))), (a 4, .inl (eI E, 3, .inl M.2.2.2.2.2.1)), (a 5, .inl (eI E, 120, .inl M.2.2.2.2.2.2.1)), (a 6, .inl (eI E, 60, .inl M.2.2.2.2.2.2.2.1)), (a 7, .inl (eI E, 120, .inl M.2.2.2.2.2.2.2.2))]) (pc := 129) hx hb hK.1 hP hD hS 1 1 rfl rfl (g_in (by decide +kernel)) rfl rfl dX6_shows_129 (fun H locs hP hD hS => ?_)
      exact J_8 _ _ _ _ (if_pos c_6) hP hD hS (lv_sub hl [0, 1, 2, 3, 4] rfl)
  refine lv_if_le (tgt := 66) (pc := 18) hx hb dX6_shows_18 (by decide) (fun c_3 => ?_) (fun c_3 => ?_)
  · refine lv_iload_n (pc := 66) hx hb dX6_shows_66 rfl (lv_at hl 3 rfl) ?_
    refine lv_if_ge (tgt := 112) (pc := 67) hx hb dX6_shows_67 (by decide) (fun c_4 => ?_) (fun c_4 => ?_)
    · exact J_5 _ _ _ _ ((if_pos c_3).trans (if_pos c_4)) hP hD hS (lv_sub hl [2, 3, 4, 1, 0] rfl)
    · refine lv_lload (pc := 70) hx hb dX6_shows_70 (lv_at hl 0 rfl) ?_
      refine lv_iload_n (pc := 72) hx hb dX6_shows_72 rfl (lv_at hl 4 rfl) ?_
      refine lv_i2l (v := n.toInt64) (pc := 73) hx hb dX6_shows_73 rfl ?_
      refine lv_ladd (pc := 74) hx hb dX6_shows_74 ?_
      refine lv_lload_n (pc := 75) hx hb dX6_shows_75 rfl (lv_at hl 1 rfl) ?_
      have J_7 : ∀ (H : Heap) (locs : List Loc) (ls : Array Slot) (x6 : Int64), (if x2 ≤ ((M.2.2.1 4) + n.toInt64) then x2 else ((M.2.2.1 4) + n.toInt64)) = x6 → va_P E.1 vwCl [(a 0, .inr (6, [.ref (a 1), .ref (a 2), .ref (a 3), .int (M.1 0), .ref (a 4), .ref (a 5), .int (M.1 1), .int (M.1 2), .int (M.1 3), .ref (a 6), .ref (a 7), .int (M.1 4), .int (M.1 5), .int (M.1 6), .long M.2.1])), (a 1, .inl (eJ E, 68, .inr (.inl M.2.2.1))), (a 2, .inl (eJ E, 68, .inr (.inl M.2.2.2.1))), (a 3, .inl (eJ E, 340, .inr (.inl M.2.2.2.2.1))), (a 4, .inl (eI E, 3, .inl M.2.2.2.2.2.1)), (a 5, .inl (eI E, 120, .inl M.2.2.2.2.2.2.1)), (a 6, .inl (eI E, 60, .inl M.2.2.2.2.2.2.2.1)), (a 7, .inl (eI E, 120, .inl M.2.2.2.2.2.2.2.2))] H → va_D A [(a 0, .inr (6, [.ref (a 1), .ref (a 2), .ref (a 3), .int (M.1 0), .ref (a 4), .ref (a 5), .int (M.1 1), .int (M.1 2), .int (M.1 3), .ref (a 6), .ref (a 7), .int (M.1 4), .int (M.1 5), .int (M.1 6), .long M.2.1])), (a 1, .inl (eJ E, 68, .inr (.inl M.2.2.1))), (a 2, .inl (eJ E, 68, .inr (.inl M.2.2.2.1))), (a 3, .inl (eJ E, 340, .inr (.inl M.2.2.2.2.1))), (a 4, .inl (eI E, 3, .inl M.2.2.2.2.2.1)), (a 5, .inl (eI E, 120, .inl M.2.2.2.2.2.2.1)), (a 6, .inl (eI E, 60, .inl M.2.2.2.2.2.2.2.1)), (a 7, .inl (eI E, 120, .inl M.2.2.2.2.2.2.2.2))] → va_S A s.heap H locs → lv_has ls 9 [(0, .ref (a 0)), (1, .int i), (2, .int n), (3, .long x2), (5, .long (M.2.2.1 4))] → W p l e rX6_shows s m args below meth c H locs 0 0 Q (F0 m 89 ls [.long x6]) := by
        intro H locs ls x6 ex6 hP hD hS hl
        refine lv_lstore (lv' := [(7, .long x6), (0, .ref (a 0)), (1, .int i), (2, .int n), (3, .long x2), (5, .long (M.2.2.1 4))]) (pc := 89) hx hb dX6_shows_89 hl (by decide) rfl (fun ls hl => ?_)
        refine lv_aload_n (pc := 91) hx hb dX6_shows_91 rfl (lv_at hl 1 rfl) ?_
        refine g_get (v := .ref (a 1)) (pc := 92) hx hb hts ii_X6_shows_X6 hown hK.1 hP 0 rfl rfl 0 (by decide) ⟨rfl, rfl, rfl⟩ mm_X6_shows_1 rfl dX6_shows_92 ?_
        refine lv_iconst (v := 4) (pc := 95) hx hb dX6_shows_95 rfl ?_
        refine lv_lload (pc := 96) hx hb dX6_shows_96 (lv_at hl 0 rfl) ?_
        refine lv_lload (pc := 98) hx hb dX6_shows_98 (lv_at hl 5 rfl) ?_
        have J_10 : ∀ (H : Heap) (locs : List Loc) (ls : Array Slot) (x9 : Int64), (if x6 ≤ (M.2.2.1 4) then (M.2.2.1 4) else x6) = x9 → va_P E.1 vwCl [(a 0, .inr (6, [.ref (a 1), .ref (a 2), .ref (a 3), .int (M.1 0), .ref (a 4), .ref (a 5), .int (M.1 1), .int (M.1 2), .int (M.1 3), .ref (a 6), .ref (a 7), .int (M.1 4), .int (M.1 5), .int (M.1 6), .long M.2.1])), (a 1, .inl (eJ E, 68, .inr (.inl M.2.2.1))), (a 2, .inl (eJ E, 68, .inr (.inl M.2.2.2.1))), (a 3, .inl (eJ E, 340, .inr (.inl M.2.2.2.2.1))), (a 4, .inl (eI E, 3, .inl M.2.2.2.2.2.1)), (a 5, .inl (eI E, 120, .inl M.2.2.2.2.2.2.1)), (a 6, .inl (eI E, 60, .inl M.2.2.2.2.2.2.2.1)), (a 7, .inl (eI E, 120, .inl M.2.2.2.2.2.2.2.2))] H → va_D A [(a 0, .inr (6, [.ref (a 1), .ref (a 2), .ref (a 3), .int (M.1 0), .ref (a 4), .ref (a 5), .int (M.1 1), .int (M.1 2), .int (M.1 3), .ref (a 6), .ref (a 7), .int (M.1 4), .int (M.1 5), .int (M.1 6), .long M.2.1])), (a 1, .inl (eJ E, 68, .inr (.inl M.2.2.1))), (a 2, .inl (eJ E, 68, .inr (.inl M.2.2.2.1))), (a 3, .inl (eJ E, 340, .inr (.inl M.2.2.2.2.1))), (a 4, .inl (eI E, 3, .inl M.2.2.2.2.2.1)), (a 5, .inl (eI E, 120, .inl M.2.2.2.2.2.2.1)), (a 6, .inl (eI E, 60, .inl M.2.2.2.2.2.2.2.1)), (a 7, .inl (eI E, 120, .inl M.2.2.2.2.2.2.2.2))] → va_S A s.heap H locs → lv_has ls 9 [(0, .ref (a 0)), (1, .int i), (2, .int n), (3, .long x2), (5, .long (M.2.2.1 4)), (7, .long x6)] → W p l e rX6_shows s m args below meth c H locs 0 0 Q (F0 m 111 ls [.long x9, .int 4, .ref (a 1)]) := by
          intro H locs ls x9 ex9 hP hD hS hl
          refine g_last (j := 4) (w1 := [(a 0, .inr (6, [.ref (a 1), .ref (a 2), .ref (a 3), .int (M.1 0), .ref (a 4), .ref (a 5), .int (M.1 1), .int (M.1 2), .int (M.1 3), .ref (a 6), .ref (a 7), .int (M.1 4), .int (M.1 5), .int (M.1 6), .long M.2.1])), (a 1, .inl (eJ E, 68, .inr (.inl (vp_updL M.2.2.1 4 x9)))), (a 2, .inl (eJ E, 68, .inr (.inl M.2.2.2.1))), (a 3, .inl (eJ E, 340, .inr (.inl M.2.2.2.2.1))), (a 4, .inl (eI E, 3, .inl M.2.2.2.2.2.1)), (a 5, .inl (eI E, 120, .inl M.2.2.2.2.2.2.1)), (a 6, .inl (eI E, 60, .inl M.2.2.2.2.2.2.2.1)), (a 7, .inl (eI E, 120, .inl M.2.2.2.2.2.2.2.2))]) (pc := 111) hx hb hK.1 hP hD hS 1 1 rfl rfl (g_in (by decide +kernel)) rfl rfl dX6_shows_111 (fun H locs hP hD hS => ?_)
          subst ex9
          subst ex6
          exact J_5 _ _ _ _ ((if_pos c_3).trans (if_neg c_4)) hP hD hS (lv_sub hl [0, 1, 2, 3, 4] rfl)
        refine gl_le (tgt := 109) (pc := 100) hx hb dX6_shows_100 dX6_shows_101 rfl (fun c_8 => ?_) (fun c_8 => ?_)
        · refine lv_lload (pc := 109) hx hb dX6_shows_109 (lv_at hl 5 rfl) ?_
          exact J_10 _ _ _ _ (if_pos c_8) hP hD hS (lv_sub hl [1, 2, 3, 4, 5, 0] rfl)
        · refine lv_lload (pc := 104) hx hb dX6_shows_104 (lv_at hl 0 rfl) ?_
          refine lv_goto (tgt := 111) (pc := 106) hx hb dX6_shows_106 (by decide) ?_
          exact J_10 _ _ _ _ (if_neg c_8) hP hD hS (lv_sub hl [1, 2, 3, 4, 5, 0] rfl)
      refine gl_ge (tgt := 88) (pc := 76) hx hb dX6_shows_76 dX6_shows_77 rfl (fun c_5 => ?_) (fun c_5 => ?_)
      · refine lv_lload_n (pc := 88) hx hb dX6_shows_88 rfl (lv_at hl 1 rfl) ?_
        exact J_7 _ _ _ _ (if_pos c_5) hP hD hS (lv_sub hl [2, 3, 4, 1, 0] rfl)
      · refine lv_lload (pc := 80) hx hb dX6_shows_80 (lv_at hl 0 rfl) ?_
        refine lv_iload_n (pc := 82) hx hb dX6_shows_82 rfl (lv_at hl 4 rfl) ?_
        refine lv_i2l (v := n.toInt64) (pc := 83) hx hb dX6_shows_83 rfl ?_
        refine lv_ladd (pc := 84) hx hb dX6_shows_84 ?_
        refine lv_goto (tgt := 89) (pc := 85) hx hb dX6_shows_85 (by decide) ?_
        exact J_7 _ _ _ _ (if_neg c_5) hP hD hS (lv_sub hl [2, 3, 4, 1, 0] rfl)
  · refine lv_lload (pc := 21) hx hb dX6_shows_21 (lv_at hl 0 rfl) ?_
    refine lv_iload_n (pc := 23) hx hb dX6_shows_23 rfl (lv_at hl 4 rfl) ?_
    refine lv_i2l (v := n.toInt64) (pc := 24) hx hb dX6_shows_24 rfl ?_
    refine lv_lsub (pc := 25) hx hb dX6_shows_25 ?_
    refine lv_lload_n (pc := 26) hx hb dX6_shows_26 rfl (lv_at hl 1 rfl) ?_
    have J_13 : ∀ (H : Heap) (locs : List Loc) (ls : Array Slot) (x12 : Int64), (if ((M.2.2.1 4) - n.toInt64) ≤ x2 then x2 else ((M.2.2.1 4) - n.toInt64)) = x12 → va_P E.1 vwCl [(a 0, .inr (6, [.ref (a 1), .ref (a 2), .ref (a 3), .int (M.1 0), .ref (a 4), .ref (a 5), .int (M.1 1), .int (M.1 2), .int (M.1 3), .ref (a 6), .ref (a 7), .int (M.1 4), .int (M.1 5), .int (M.1 6), .long M.2.1])), (a 1, .inl (eJ E, 68, .inr (.inl M.2.2.1))), (a 2, .inl (eJ E, 68, .inr (.inl M.2.2.2.1))), (a 3, .inl (eJ E, 340, .inr (.inl M.2.2.2.2.1))), (a 4, .inl (eI E, 3, .inl M.2.2.2.2.2.1)), (a 5, .inl (eI E, 120, .inl M.2.2.2.2.2.2.1)), (a 6, .inl (eI E, 60, .inl M.2.2.2.2.2.2.2.1)), (a 7, .inl (eI E, 120, .inl M.2.2.2.2.2.2.2.2))] H → va_D A [(a 0, .inr (6, [.ref (a 1), .ref (a 2), .ref (a 3), .int (M.1 0), .ref (a 4), .ref (a 5), .int (M.1 1), .int (M.1 2), .int (M.1 3), .ref (a 6), .ref (a 7), .int (M.1 4), .int (M.1 5), .int (M.1 6), .long M.2.1])), (a 1, .inl (eJ E, 68, .inr (.inl M.2.2.1))), (a 2, .inl (eJ E, 68, .inr (.inl M.2.2.2.1))), (a 3, .inl (eJ E, 340, .inr (.inl M.2.2.2.2.1))), (a 4, .inl (eI E, 3, .inl M.2.2.2.2.2.1)), (a 5, .inl (eI E, 120, .inl M.2.2.2.2.2.2.1)), (a 6, .inl (eI E, 60, .inl M.2.2.2.2.2.2.2.1)), (a 7, .inl (eI E, 120, .inl M.2.2.2.2.2.2.2.2))] → va_S A s.heap H locs → lv_has ls 9 [(0, .ref (a 0)), (1, .int i), (2, .int n), (3, .long x2), (5, .long (M.2.2.1 4))] → W p l e rX6_shows s m args below meth c H locs 0 0 Q (F0 m 40 ls [.long x12]) := by
      intro H locs ls x12 ex12 hP hD hS hl
      refine lv_lstore (lv' := [(7, .long x12), (0, .ref (a 0)), (1, .int i), (2, .int n), (3, .long x2), (5, .long (M.2.2.1 4))]) (pc := 40) hx hb dX6_shows_40 hl (by decide) rfl (fun ls hl => ?_)
      refine lv_aload_n (pc := 42) hx hb dX6_shows_42 rfl (lv_at hl 1 rfl) ?_
      refine g_get (v := .ref (a 1)) (pc := 43) hx hb hts ii_X6_shows_X6 hown hK.1 hP 0 rfl rfl 0 (by decide) ⟨rfl, rfl, rfl⟩ mm_X6_shows_1 rfl dX6_shows_43 ?_
      refine lv_iconst (v := 4) (pc := 46) hx hb dX6_shows_46 rfl ?_
      refine lv_lload (pc := 47) hx hb dX6_shows_47 (lv_at hl 0 rfl) ?_
      refine lv_lload (pc := 49) hx hb dX6_shows_49 (lv_at hl 5 rfl) ?_
      have J_16 : ∀ (H : Heap) (locs : List Loc) (ls : Array Slot) (x15 : Int64), (if (M.2.2.1 4) ≤ x12 then (M.2.2.1 4) else x12) = x15 → va_P E.1 vwCl [(a 0, .inr (6, [.ref (a 1), .ref (a 2), .ref (a 3), .int (M.1 0), .ref (a 4), .ref (a 5), .int (M.1 1), .int (M.1 2), .int (M.1 3), .ref (a 6), .ref (a 7), .int (M.1 4), .int (M.1 5), .int (M.1 6), .long M.2.1])), (a 1, .inl (eJ E, 68, .inr (.inl M.2.2.1))), (a 2, .inl (eJ E, 68, .inr (.inl M.2.2.2.1))), (a 3, .inl (eJ E, 340, .inr (.inl M.2.2.2.2.1))), (a 4, .inl (eI E, 3, .inl M.2.2.2.2.2.1)), (a 5, .inl (eI E, 120, .inl M.2.2.2.2.2.2.1)), (a 6, .inl (eI E, 60, .inl M.2.2.2.2.2.2.2.1)), (a 7, .inl (eI E, 120, .inl M.2.2.2.2.2.2.2.2))] H → va_D A [(a 0, .inr (6, [.ref (a 1), .ref (a 2), .ref (a 3), .int (M.1 0), .ref (a 4), .ref (a 5), .int (M.1 1), .int (M.1 2), .int (M.1 3), .ref (a 6), .ref (a 7), .int (M.1 4), .int (M.1 5), .int (M.1 6), .long M.2.1])), (a 1, .inl (eJ E, 68, .inr (.inl M.2.2.1))), (a 2, .inl (eJ E, 68, .inr (.inl M.2.2.2.1))), (a 3, .inl (eJ E, 340, .inr (.inl M.2.2.2.2.1))), (a 4, .inl (eI E, 3, .inl M.2.2.2.2.2.1)), (a 5, .inl (eI E, 120, .inl M.2.2.2.2.2.2.1)), (a 6, .inl (eI E, 60, .inl M.2.2.2.2.2.2.2.1)), (a 7, .inl (eI E, 120, .inl M.2.2.2.2.2.2.2.2))] → va_S A s.heap H locs → lv_has ls 9 [(0, .ref (a 0)), (1, .int i), (2, .int n), (3, .long x2), (5, .long (M.2.2.1 4)), (7, .long x12)] → W p l e rX6_shows s m args below meth c H locs 0 0 Q (F0 m 62 ls [.long x15, .int 4, .ref (a 1)]) := by
        intro H locs ls x15 ex15 hP hD hS hl
        refine g_last (j := 4) (w1 := [(a 0, .inr (6, [.ref (a 1), .ref (a 2), .ref (a 3), .int (M.1 0), .ref (a 4), .ref (a 5), .int (M.1 1), .int (M.1 2), .int (M.1 3), .ref (a 6), .ref (a 7), .int (M.1 4), .int (M.1 5), .int (M.1 6), .long M.2.1])), (a 1, .inl (eJ E, 68, .inr (.inl (vp_updL M.2.2.1 4 x15)))), (a 2, .inl (eJ E, 68, .inr (.inl M.2.2.2.1))), (a 3, .inl (eJ E, 340, .inr (.inl M.2.2.2.2.1))), (a 4, .inl (eI E, 3, .inl M.2.2.2.2.2.1)), (a 5, .inl (eI E, 120, .inl M.2.2.2.2.2.2.1)), (a 6, .inl (eI E, 60, .inl M.2.2.2.2.2.2.2.1)), (a 7, .inl (eI E, 120, .inl M.2.2.2.2.2.2.2.2))]) (pc := 62) hx hb hK.1 hP hD hS 1 1 rfl rfl (g_in (by decide +kernel)) rfl rfl dX6_shows_62 (fun H locs hP hD hS => ?_)
        refine lv_goto (tgt := 112) (pc := 63) hx hb dX6_shows_63 (by decide) ?_
        subst ex15
        subst ex12
        exact J_5 _ _ _ _ (if_neg c_3) hP hD hS (lv_sub hl [0, 1, 2, 3, 4] rfl)
      refine gl_ge (tgt := 60) (pc := 51) hx hb dX6_shows_51 dX6_shows_52 rfl (fun c_14 => ?_) (fun c_14 => ?_)
      · refine lv_lload (pc := 60) hx hb dX6_shows_60 (lv_at hl 5 rfl) ?_
        exact J_16 _ _ _ _ (if_pos c_14) hP hD hS (lv_sub hl [1, 2, 3, 4, 5, 0] rfl)
      · refine lv_lload (pc := 55) hx hb dX6_shows_55 (lv_at hl 0 rfl) ?_
        refine lv_goto (tgt := 62) (pc := 57) hx hb dX6_shows_57 (by decide) ?_
        exact J_16 _ _ _ _ (if_neg c_14) hP hD hS (lv_sub hl [1, 2, 3, 4, 5, 0] rfl)
    refine gl_le (tgt := 39) (pc := 27) hx hb dX6_shows_27 dX6_shows_28 rfl (fun c_11 => ?_) (fun c_11 => ?_)
    · refine lv_lload_n (pc := 39) hx hb dX6_shows_39 rfl (lv_at hl 1 rfl) ?_
      exact J_13 _ _ _ _ (if_pos c_11) hP hD hS (lv_sub hl [2, 3, 4, 1, 0] rfl)
    · refine lv_lload (pc := 31) hx hb dX6_shows_31 (lv_at hl 0 rfl) ?_
      refine lv_iload_n (pc := 33) hx hb dX6_shows_33 rfl (lv_at hl 4 rfl) ?_
      refine lv_i2l (v := n.toInt64) (pc := 34) hx hb dX6_shows_34 rfl ?_
      refine lv_lsub (pc := 35) hx hb dX6_shows_35 ?_
      refine lv_goto (tgt := 40) (pc := 36) hx hb dX6_shows_36 (by decide) ?_
      exact J_13 _ _ _ _ (if_neg c_11) hP hD hS (lv_sub hl [2, 3, 4, 1, 0] rfl)

def fX6_putPassing (M : Mdl) (i : Int32) (n : Int32) : Int32 × (Mdl) :=
  let r1 : Int32 := fX6_in i.toInt64 (-99) 99
  if r1 = 0 then
    ((-10000002), M)
  else
    let r3 : Int32 := fX6_in n.toInt64 1 999
    if r3 = 0 then
      ((-10000002), M)
    else
      let x5 : Int64 := (M.2.2.1 0) - (n.toInt64 * (i.toInt64 + (M.2.2.1 11)))
      let x6 : Int64 := (M.2.2.1 1) - (n.toInt64 * (i.toInt64 - (M.2.2.1 11)))
      let x8 : Int64 := (if 0 ≤ x5 then x5 else 0)
      let x11 : Int64 := (if x6 ≤ (M.2.2.1 3) then x6 else (M.2.2.1 3))
      if x11 < 0 then
        ((-10000003), M)
      else
        if (M.2.2.1 3) < x8 then
          ((-10000003), M)
        else
          if x8 ≤ x11 then
            let x16 : Int64 := (M.2.2.1 5) + (n.toInt64 * i.toInt64)
            let x17 : Int64 := (M.2.2.1 6) + n.toInt64
            let r18 : Mdl := fX6_shows (M.1, M.2.1, (vp_updL (vp_updL (vp_updL (vp_updL M.2.2.1 0 x8) 1 x11) 5 x16) 6 x17), M.2.2.2.1, M.2.2.2.2.1, M.2.2.2.2.2.1, M.2.2.2.2.2.2.1, M.2.2.2.2.2.2.2.1, M.2.2.2.2.2.2.2.2) i n
            ((x11 - x8).toInt32, r18)
          else
            ((-10000003), M)
abbrev rX6_putPassing : Room := { frames := 2, cells := 0, slots := 0, locals := 52 }
theorem mm_X6_putPassing_1 : Cond.constantLong RX6 79 (-99) ∈ wsX6_putPassing := List.mem_of_getElem? (i := 1) rfl
theorem mm_X6_putPassing_2 : Cond.constantLong RX6 81 (99) ∈ wsX6_putPassing := List.mem_of_getElem? (i := 2) rfl
theorem mm_X6_putPassing_4 : Cond.constant RX6 44 (-10000002) ∈ wsX6_putPassing := List.mem_of_getElem? (i := 4) rfl
theorem mm_X6_putPassing_3 : Cond.constantLong RX6 83 (999) ∈ wsX6_putPassing := List.mem_of_getElem? (i := 3) rfl
theorem mm_X6_putPassing_5 : Cond.fieldLink RX6 7 "GaugeBoundsModel" "now" "[J" ∈ wsX6_putPassing := List.mem_of_getElem? (i := 5) rfl
theorem mm_X6_putPassing_6 : Cond.constant RX6 49 (-10000003) ∈ wsX6_putPassing := List.mem_of_getElem? (i := 6) rfl
theorem ii_X6_putPassing_X6 : ∀ w ∈ wsX60, w ∈ wsX6_putPassing := fun _ h => List.mem_cons_of_mem _ (List.mem_append_right _ (h))
theorem qvX6_putPassing : yX6_putPassing.cls = RX6 ∧ yX6_putPassing.cls ≠ "java/lang/invoke/MethodHandle" ∧ yX6_putPassing.cls ≠ "java/lang/invoke/VarHandle" ∧ (parseMethodDescriptor yX6_putPassing.desc).map (fun d => d.parameters.length) = some 2 := by decide +kernel
set_option maxHeartbeats 4000000 in
set_option maxRecDepth 100000 in
theorem kX6_putPassing (l : Launch) (E : gEnv) (a : Nat → Nat) (M : Mdl) (i : Int32) (n : Int32) : gMi l E yX6_putPassing wsX6_putPassing rX6_putPassing [.ref (a 0), .int i, .int n] (wM E a M) (fX6_putPassing M i n).1 (wM E a ((fX6_putPassing M i n).2)) := by
  refine gMi_of (cc := cX6_putPassing) (maxL := 9) (ret := (some .int)) (by decide) rfl rfl (Nat.le_of_ble_eq_true rfl) ?_
  intro p e s m args below meth c A Q ls hB hQ
  obtain ⟨hx, hb, hml, hown, hts, hK, hP, hD, hA, hS, hl⟩ := hB
  have hown : s.vm.findClass RX6 = some m.cls := hown
  have hP : va_P E.1 vwCl [(a 0, .inr (6, [.ref (a 1), .ref (a 2), .ref (a 3), .int (M.1 0), .ref (a 4), .ref (a 5), .int (M.1 1), .int (M.1 2), .int (M.1 3), .ref (a 6), .ref (a 7), .int (M.1 4), .int (M.1 5), .int (M.1 6), .long M.2.1])), (a 1, .inl (eJ E, 68, .inr (.inl M.2.2.1))), (a 2, .inl (eJ E, 68, .inr (.inl M.2.2.2.1))), (a 3, .inl (eJ E, 340, .inr (.inl M.2.2.2.2.1))), (a 4, .inl (eI E, 3, .inl M.2.2.2.2.2.1)), (a 5, .inl (eI E, 120, .inl M.2.2.2.2.2.2.1)), (a 6, .inl (eI E, 60, .inl M.2.2.2.2.2.2.2.1)), (a 7, .inl (eI E, 120, .inl M.2.2.2.2.2.2.2.2))] s.heap := hP
  have hD : va_D A [(a 0, .inr (6, [.ref (a 1), .ref (a 2), .ref (a 3), .int (M.1 0), .ref (a 4), .ref (a 5), .int (M.1 1), .int (M.1 2), .int (M.1 3), .ref (a 6), .ref (a 7), .int (M.1 4), .int (M.1 5), .int (M.1 6), .long M.2.1])), (a 1, .inl (eJ E, 68, .inr (.inl M.2.2.1))), (a 2, .inl (eJ E, 68, .inr (.inl M.2.2.2.1))), (a 3, .inl (eJ E, 340, .inr (.inl M.2.2.2.2.1))), (a 4, .inl (eI E, 3, .inl M.2.2.2.2.2.1)), (a 5, .inl (eI E, 120, .inl M.2.2.2.2.2.2.1)), (a 6, .inl (eI E, 60, .inl M.2.2.2.2.2.2.2.1)), (a 7, .inl (eI E, 120, .inl M.2.2.2.2.2.2.2.2))] := hD
  have hl : lv_has ls 9 [(0, .ref (a 0)), (1, .int i), (2, .int n)] := hl
  refine lv_iload_n (pc := 0) hx hb dX6_putPassing_0 rfl (lv_at hl 1 rfl) ?_
  refine lv_i2l (v := i.toInt64) (pc := 1) hx hb dX6_putPassing_1 rfl ?_
  refine lv_ldc2 (v := (-99)) (pc := 2) hx hb hown (hts _ mm_X6_putPassing_1) dX6_putPassing_2 ?_
  refine lv_ldc2 (v := (99)) (pc := 5) hx hb hown (hts _ mm_X6_putPassing_2) dX6_putPassing_5 ?_
  obtain ⟨r1, er1⟩ : ∃ z : Int32, fX6_in i.toInt64 (-99) 99 = z := ⟨_, rfl⟩
  have hr1 := kX6_in l E i.toInt64 (-99) 99
  rw [er1] at hr1
  refine gcSi (pc := 8) (As := [.long i.toInt64, .long (-99), .long 99]) (rest := []) ⟨hx, hb, hml, hown, hts⟩ hr1 (cwS 3 hts gX6_putPassing_X6_in rfl rfl rfl qsX6_in ⟨Nat.le_of_ble_eq_true rfl, Nat.le_of_ble_eq_true rfl⟩) hK hP hD hS hA rfl hl.1 rfl (Nat.le_of_ble_eq_true rfl) dX6_putPassing_8 ⟨Nat.zero_le _, Nat.zero_le _⟩ (fun H locs hP hD hS => ?_)
  refine lv_if_eq (tgt := 26) (pc := 11) hx hb dX6_putPassing_11 (by decide) (fun c_2 => ?_) (fun c_2 => ?_)
  · refine lv_ldc (v := (-10000002)) (pc := 26) hx hb hown (hts _ mm_X6_putPassing_4) dX6_putPassing_26 ?_
    subst er1
    have hfn : fX6_putPassing M i n = _ := if_pos c_2
    rw [hfn] at hQ
    exact hQ _ _ _ _ _ rfl hP hD hS dX6_putPassing_28
  · refine lv_iload_n (pc := 14) hx hb dX6_putPassing_14 rfl (lv_at hl 2 rfl) ?_
    refine lv_i2l (v := n.toInt64) (pc := 15) hx hb dX6_putPassing_15 rfl ?_
    refine lv_lconst (v := 1) (pc := 16) hx hb dX6_putPassing_16 rfl ?_
    refine lv_ldc2 (v := (999)) (pc := 17) hx hb hown (hts _ mm_X6_putPassing_3) dX6_putPassing_17 ?_
    obtain ⟨r3, er3⟩ : ∃ z : Int32, fX6_in n.toInt64 1 999 = z := ⟨_, rfl⟩
    have hr3 := kX6_in l E n.toInt64 1 999
    rw [er3] at hr3
    refine gcSi (pc := 20) (As := [.long n.toInt64, .long 1, .long 999]) (rest := []) ⟨hx, hb, hml, hown, hts⟩ hr3 (cwS 3 hts gX6_putPassing_X6_in rfl rfl rfl qsX6_in ⟨Nat.le_of_ble_eq_true rfl, Nat.le_of_ble_eq_true rfl⟩) hK hP hD hS hA rfl hl.1 rfl (Nat.le_of_ble_eq_true rfl) dX6_putPassing_20 ⟨Nat.zero_le _, Nat.zero_le _⟩ (fun H locs hP hD hS => ?_)
    refine lv_if_ne (tgt := 29) (pc := 23) hx hb dX6_putPassing_23 (by decide) (fun c_4 => ?_) (fun c_4 => ?_)
    · refine lv_aload_n (pc := 29) hx hb dX6_putPassing_29 rfl (lv_at hl 0 rfl) ?_
      refine g_get (v := .ref (a 1)) (pc := 30) hx hb hts ii_X6_putPassing_X6 hown hK.1 hP 0 rfl rfl 0 (by decide) ⟨rfl, rfl, rfl⟩ mm_X6_putPassing_5 rfl dX6_putPassing_30 ?_
      refine lv_bipush (v := 11) (pc := 33) hx hb dX6_putPassing_33 rfl ?_
      refine g_lald (j := 11) (v := (M.2.2.1 11)) (pc := 35) hx hb hK.1 hP 1 1 rfl rfl (g_in (by decide +kernel)) rfl rfl dX6_putPassing_35 ?_
      refine lv_lstore_n (lv' := [(3, .long (M.2.2.1 11)), (0, .ref (a 0)), (1, .int i), (2, .int n)]) (pc := 36) hx hb dX6_putPassing_36 rfl hl (by decide) rfl (fun ls hl => ?_)
      refine lv_aload_n (pc := 37) hx hb dX6_putPassing_37 rfl (lv_at hl 1 rfl) ?_
      refine g_get (v := .ref (a 1)) (pc := 38) hx hb hts ii_X6_putPassing_X6 hown hK.1 hP 0 rfl rfl 0 (by decide) ⟨rfl, rfl, rfl⟩ mm_X6_putPassing_5 rfl dX6_putPassing_38 ?_
      refine lv_iconst (v := 0) (pc := 41) hx hb dX6_putPassing_41 rfl ?_
      refine g_lald (j := 0) (v := (M.2.2.1 0)) (pc := 42) hx hb hK.1 hP 1 1 rfl rfl (g_in (by decide +kernel)) rfl rfl dX6_putPassing_42 ?_
      refine lv_iload_n (pc := 43) hx hb dX6_putPassing_43 rfl (lv_at hl 3 rfl) ?_
      refine lv_i2l (v := n.toInt64) (pc := 44) hx hb dX6_putPassing_44 rfl ?_
      refine lv_iload_n (pc := 45) hx hb dX6_putPassing_45 rfl (lv_at hl 2 rfl) ?_
      refine lv_i2l (v := i.toInt64) (pc := 46) hx hb dX6_putPassing_46 rfl ?_
      refine lv_lload_n (pc := 47) hx hb dX6_putPassing_47 rfl (lv_at hl 0 rfl) ?_
      refine lv_ladd (pc := 48) hx hb dX6_putPassing_48 ?_
      refine lv_lmul (pc := 49) hx hb dX6_putPassing_49 ?_
      refine lv_lsub (pc := 50) hx hb dX6_putPassing_50 ?_
      refine g_topl (fun x5 ex5 => ?_)
      refine lv_lstore (lv' := [(5, .long x5), (3, .long (M.2.2.1 11)), (0, .ref (a 0)), (1, .int i), (2, .int n)]) (pc := 51) hx hb dX6_putPassing_51 hl (by decide) rfl (fun ls hl => ?_)
      refine lv_aload_n (pc := 53) hx hb dX6_putPassing_53 rfl (lv_at hl 2 rfl) ?_
      refine g_get (v := .ref (a 1)) (pc := 54) hx hb hts ii_X6_putPassing_X6 hown hK.1 hP 0 rfl rfl 0 (by decide) ⟨rfl, rfl, rfl⟩ mm_X6_putPassing_5 rfl dX6_putPassing_54 ?_
      refine lv_iconst (v := 1) (pc := 57) hx hb dX6_putPassing_57 rfl ?_
      refine g_lald (j := 1) (v := (M.2.2.1 1)) (pc := 58) hx hb hK.1 hP 1 1 rfl rfl (g_in (by decide +kernel)) rfl rfl dX6_putPassing_58 ?_
      refine lv_iload_n (pc := 59) hx hb dX6_putPassing_59 rfl (lv_at hl 4 rfl) ?_
      refine lv_i2l (v := n.toInt64) (pc := 60) hx hb dX6_putPassing_60 rfl ?_
      refine lv_iload_n (pc := 61) hx hb dX6_putPassing_61 rfl (lv_at hl 3 rfl) ?_
      refine lv_i2l (v := i.toInt64) (pc := 62) hx hb dX6_putPassing_62 rfl ?_
      refine lv_lload_n (pc := 63) hx hb dX6_putPassing_63 rfl (lv_at hl 1 rfl) ?_
      refine lv_lsub (pc := 64) hx hb dX6_putPassing_64 ?_
      refine lv_lmul (pc := 65) hx hb dX6_putPassing_65 ?_
      refine lv_lsub (pc := 66) hx hb dX6_putPassing_66 ?_
      refine g_topl (fun x6 ex6 => ?_)
      refine lv_lstore (lv' := [(7, .long x6), (5, .long x5), (3, .long (M.2.2.1 11)), (0, .ref (a 0)), (1, .int i), (2, .int n)]) (pc := 67) hx hb dX6_putPassing_67 hl (by decide) rfl (fun ls hl => ?_)
      refine lv_lload (pc := 69) hx hb dX6_putPassing_69 (lv_at hl 1 rfl) ?_
      refine lv_lconst (v := 0) (pc := 71) hx hb dX6_putPassing_71 rfl ?_
      have J_9 : ∀ (H : Heap) (locs : List Loc) (ls : Array Slot) (x8 : Int64), (if 0 ≤ x5 then x5 else 0) = x8 → va_P E.1 vwCl [(a 0, .inr (6, [.ref (a 1), .ref (a 2), .ref (a 3), .int (M.1 0), .ref (a 4), .ref (a 5), .int (M.1 1), .int (M.1 2), .int (M.1 3), .ref (a 6), .ref (a 7), .int (M.1 4), .int (M.1 5), .int (M.1 6), .long M.2.1])), (a 1, .inl (eJ E, 68, .inr (.inl M.2.2.1))), (a 2, .inl (eJ E, 68, .inr (.inl M.2.2.2.1))), (a 3, .inl (eJ E, 340, .inr (.inl M.2.2.2.2.1))), (a 4, .inl (eI E, 3, .inl M.2.2.2.2.2.1)), (a 5, .inl (eI E, 120, .inl M.2.2.2.2.2.2.1)), (a 6, .inl (eI E, 60, .inl M.2.2.2.2.2.2.2.1)), (a 7, .inl (eI E, 120, .inl M.2.2.2.2.2.2.2.2))] H → va_D A [(a 0, .inr (6, [.ref (a 1), .ref (a 2), .ref (a 3), .int (M.1 0), .ref (a 4), .ref (a 5), .int (M.1 1), .int (M.1 2), .int (M.1 3), .ref (a 6), .ref (a 7), .int (M.1 4), .int (M.1 5), .int (M.1 6), .long M.2.1])), (a 1, .inl (eJ E, 68, .inr (.inl M.2.2.1))), (a 2, .inl (eJ E, 68, .inr (.inl M.2.2.2.1))), (a 3, .inl (eJ E, 340, .inr (.inl M.2.2.2.2.1))), (a 4, .inl (eI E, 3, .inl M.2.2.2.2.2.1)), (a 5, .inl (eI E, 120, .inl M.2.2.2.2.2.2.1)), (a 6, .inl (eI E, 60, .inl M.2.2.2.2.2.2.2.1)), (a 7, .inl (eI E, 120, .inl M.2.2.2.2.2.2.2.2))] → va_S A s.heap H locs → lv_has ls 9 [(0, .ref (a 0)), (1, .int i), (2, .int n), (3, .long (M.2.2.1 11)), (5, .long x5), (7, .long x6)] → W p l e rX6_putPassing s m args below meth c H locs 0 0 Q (F0 m 82 ls [.long x8]) := by
        intro H locs ls x8 ex8 hP hD hS hl
        refine lv_lstore (lv' := [(5, .long x8), (0, .ref (a 0)), (1, .int i), (2, .int n), (3, .long (M.2.2.1 11)), (7, .long x6)]) (pc := 82) hx hb dX6_putPassing_82 hl (by decide) rfl (fun ls hl => ?_)
        refine lv_lload (pc := 84) hx hb dX6_putPassing_84 (lv_at hl 5 rfl) ?_
        refine lv_aload_n (pc := 86) hx hb dX6_putPassing_86 rfl (lv_at hl 1 rfl) ?_
        refine g_get (v := .ref (a 1)) (pc := 87) hx hb hts ii_X6_putPassing_X6 hown hK.1 hP 0 rfl rfl 0 (by decide) ⟨rfl, rfl, rfl⟩ mm_X6_putPassing_5 rfl dX6_putPassing_87 ?_
        refine lv_iconst (v := 3) (pc := 90) hx hb dX6_putPassing_90 rfl ?_
        refine g_lald (j := 3) (v := (M.2.2.1 3)) (pc := 91) hx hb hK.1 hP 1 1 rfl rfl (g_in (by decide +kernel)) rfl rfl dX6_putPassing_91 ?_
        have J_12 : ∀ (H : Heap) (locs : List Loc) (ls : Array Slot) (x11 : Int64), (if x6 ≤ (M.2.2.1 3) then x6 else (M.2.2.1 3)) = x11 → va_P E.1 vwCl [(a 0, .inr (6, [.ref (a 1), .ref (a 2), .ref (a 3), .int (M.1 0), .ref (a 4), .ref (a 5), .int (M.1 1), .int (M.1 2), .int (M.1 3), .ref (a 6), .ref (a 7), .int (M.1 4), .int (M.1 5), .int (M.1 6), .long M.2.1])), (a 1, .inl (eJ E, 68, .inr (.inl M.2.2.1))), (a 2, .inl (eJ E, 68, .inr (.inl M.2.2.2.1))), (a 3, .inl (eJ E, 340, .inr (.inl M.2.2.2.2.1))), (a 4, .inl (eI E, 3, .inl M.2.2.2.2.2.1)), (a 5, .inl (eI E, 120, .inl M.2.2.2.2.2.2.1)), (a 6, .inl (eI E, 60, .inl M.2.2.2.2.2.2.2.1)), (a 7, .inl (eI E, 120, .inl M.2.2.2.2.2.2.2.2))] H → va_D A [(a 0, .inr (6, [.ref (a 1), .ref (a 2), .ref (a 3), .int (M.1 0), .ref (a 4), .ref (a 5), .int (M.1 1), .int (M.1 2), .int (M.1 3), .ref (a 6), .ref (a 7), .int (M.1 4), .int (M.1 5), .int (M.1 6), .long M.2.1])), (a 1, .inl (eJ E, 68, .inr (.inl M.2.2.1))), (a 2, .inl (eJ E, 68, .inr (.inl M.2.2.2.1))), (a 3, .inl (eJ E, 340, .inr (.inl M.2.2.2.2.1))), (a 4, .inl (eI E, 3, .inl M.2.2.2.2.2.1)), (a 5, .inl (eI E, 120, .inl M.2.2.2.2.2.2.1)), (a 6, .inl (eI E, 60, .inl M.2.2.2.2.2.2.2.1)), (a 7, .inl (eI E, 120, .inl M.2.2.2.2.2.2.2.2))] → va_S A s.heap H locs → lv_has ls 9 [(0, .ref (a 0)), (1, .int i), (2, .int n), (3, .long (M.2.2.1 11)), (5, .long x8), (7, .long x6)] → W p l e rX6_putPassing s m args below meth c H locs 0 0 Q (F0 m 107 ls [.long x11]) := by
          intro H locs ls x11 ex11 hP hD hS hl
          refine lv_lstore (lv' := [(7, .long x11), (0, .ref (a 0)), (1, .int i), (2, .int n), (3, .long (M.2.2.1 11)), (5, .long x8)]) (pc := 107) hx hb dX6_putPassing_107 hl (by decide) rfl (fun ls hl => ?_)
          refine lv_lload (pc := 109) hx hb dX6_putPassing_109 (lv_at hl 0 rfl) ?_
          refine lv_lconst (v := 0) (pc := 111) hx hb dX6_putPassing_111 rfl ?_
          refine gl_lt (tgt := 136) (pc := 112) hx hb dX6_putPassing_112 dX6_putPassing_113 rfl (fun c_13 => ?_) (fun c_13 => ?_)
          · refine lv_ldc (v := (-10000003)) (pc := 136) hx hb hown (hts _ mm_X6_putPassing_6) dX6_putPassing_136 ?_
            subst ex11
            subst ex8
            subst ex6
            subst ex5
            subst er3
            subst er1
            have hfn : fX6_putPassing M i n = _ := (if_neg c_2).trans ((if_neg c_4).trans (if_pos c_13))
            rw [hfn] at hQ
            exact hQ _ _ _ _ _ rfl hP hD hS dX6_putPassing_138
          · refine lv_lload (pc := 116) hx hb dX6_putPassing_116 (lv_at hl 5 rfl) ?_
            refine lv_aload_n (pc := 118) hx hb dX6_putPassing_118 rfl (lv_at hl 1 rfl) ?_
            refine g_get (v := .ref (a 1)) (pc := 119) hx hb hts ii_X6_putPassing_X6 hown hK.1 hP 0 rfl rfl 0 (by decide) ⟨rfl, rfl, rfl⟩ mm_X6_putPassing_5 rfl dX6_putPassing_119 ?_
            refine lv_iconst (v := 3) (pc := 122) hx hb dX6_putPassing_122 rfl ?_
            refine g_lald (j := 3) (v := (M.2.2.1 3)) (pc := 123) hx hb hK.1 hP 1 1 rfl rfl (g_in (by decide +kernel)) rfl rfl dX6_putPassing_123 ?_
            refine gl_gt (tgt := 136) (pc := 124) hx hb dX6_putPassing_124 dX6_putPassing_125 rfl (fun c_14 => ?_) (fun c_14 => ?_)
            · refine lv_ldc (v := (-10000003)) (pc := 136) hx hb hown (hts _ mm_X6_putPassing_6) dX6_putPassing_136 ?_
              subst ex11
              subst ex8
              subst ex6
              subst ex5
              subst er3
              subst er1
              have hfn : fX6_putPassing M i n = _ := (if_neg c_2).trans ((if_neg c_4).trans ((if_neg c_13).trans (if_pos c_14)))
              rw [hfn] at hQ
              exact hQ _ _ _ _ _ rfl hP hD hS dX6_putPassing_138
            · refine lv_lload (pc := 128) hx hb dX6_putPassing_128 (lv_at hl 5 rfl) ?_
              refine lv_lload (pc := 130) hx hb dX6_putPassing_130 (lv_at hl 0 rfl) ?_
              refine gl_le (tgt := 139) (pc := 132) hx hb dX6_putPassing_132 dX6_putPassing_133 rfl (fun c_15 => ?_) (fun c_15 => ?_)
              · refine lv_aload_n (pc := 139) hx hb dX6_putPassing_139 rfl (lv_at hl 1 rfl) ?_
                refine g_get (v := .ref (a 1)) (pc := 140) hx hb hts ii_X6_putPassing_X6 hown hK.1 hP 0 rfl rfl 0 (by decide) ⟨rfl, rfl, rfl⟩ mm_X6_putPassing_5 rfl dX6_putPassing_140 ?_
                refine lv_iconst (v := 0) (pc := 143) hx hb dX6_putPassing_143 rfl ?_
                refine lv_lload (pc := 144) hx hb dX6_putPassing_144 (lv_at hl 5 rfl) ?_
                refine g_last (j := 0) (w1 := [(a 0, .inr (6, [.ref (a 1), .ref (a 2), .ref (a 3), .int (M.1 0), .ref (a 4), .ref (a 5), .int (M.1 1), .int (M.1 2), .int (M.1 3), .ref (a 6), .ref (a 7), .int (M.1 4), .int (M.1 5), .int (M.1 6), .long M.2.1])), (a 1, .inl (eJ E, 68, .inr (.inl (vp_updL M.2.2.1 0 x8)))), (a 2, .inl (eJ E, 68, .inr (.inl M.2.2.2.1))), (a 3, .inl (eJ E, 340, .inr (.inl M.2.2.2.2.1))), (a 4, .inl (eI E, 3, .inl M.2.2.2.2.2.1)), (a 5, .inl (eI E, 120, .inl M.2.2.2.2.2.2.1)), (a 6, .inl (eI E, 60, .inl M.2.2.2.2.2.2.2.1)), (a 7, .inl (eI E, 120, .inl M.2.2.2.2.2.2.2.2))]) (pc := 146) hx hb hK.1 hP hD hS 1 1 rfl rfl (g_in (by decide +kernel)) rfl rfl dX6_putPassing_146 (fun H locs hP hD hS => ?_)
                refine lv_aload_n (pc := 147) hx hb dX6_putPassing_147 rfl (lv_at hl 1 rfl) ?_
                refine g_get (v := .ref (a 1)) (pc := 148) hx hb hts ii_X6_putPassing_X6 hown hK.1 hP 0 rfl rfl 0 (by decide) ⟨rfl, rfl, rfl⟩ mm_X6_putPassing_5 rfl dX6_putPassing_148 ?_
                refine lv_iconst (v := 1) (pc := 151) hx hb dX6_putPassing_151 rfl ?_
                refine lv_lload (pc := 152) hx hb dX6_putPassing_152 (lv_at hl 0 rfl) ?_
                refine g_last (j := 1) (w1 := [(a 0, .inr (6, [.ref (a 1), .ref (a 2), .ref (a 3), .int (M.1 0), .ref (a 4), .ref (a 5), .int (M.1 1), .int (M.1 2), .int (M.1 3), .ref (a 6), .ref (a 7), .int (M.1 4), .int (M.1 5), .int (M.1 6), .long M.2.1])), (a 1, .inl (eJ E, 68, .inr (.inl (vp_updL (vp_updL M.2.2.1 0 x8) 1 x11)))), (a 2, .inl (eJ E, 68, .inr (.inl M.2.2.2.1))), (a 3, .inl (eJ E, 340, .inr (.inl M.2.2.2.2.1))), (a 4, .inl (eI E, 3, .inl M.2.2.2.2.2.1)), (a 5, .inl (eI E, 120, .inl M.2.2.2.2.2.2.1)), (a 6, .inl (eI E, 60, .inl M.2.2.2.2.2.2.2.1)), (a 7, .inl (eI E, 120, .inl M.2.2.2.2.2.2.2.2))]) (pc := 154) hx hb hK.1 hP hD hS 1 1 rfl rfl (g_in (by decide +kernel)) rfl rfl dX6_putPassing_154 (fun H locs hP hD hS => ?_)
                refine lv_aload_n (pc := 155) hx hb dX6_putPassing_155 rfl (lv_at hl 1 rfl) ?_
                refine g_get (v := .ref (a 1)) (pc := 156) hx hb hts ii_X6_putPassing_X6 hown hK.1 hP 0 rfl rfl 0 (by decide) ⟨rfl, rfl, rfl⟩ mm_X6_putPassing_5 rfl dX6_putPassing_156 ?_
                refine lv_iconst (v := 5) (pc := 159) hx hb dX6_putPassing_159 rfl ?_
                refine lv_dup2_11 (pc := 160) hx hb dX6_putPassing_160 rfl rfl ?_
                refine g_lald (j := 5) (v := (M.2.2.1 5)) (pc := 161) hx hb hK.1 hP 1 1 rfl rfl (g_in (by decide +kernel)) rfl rfl dX6_putPassing_161 ?_
                refine lv_iload_n (pc := 162) hx hb dX6_putPassing_162 rfl (lv_at hl 3 rfl) ?_
                refine lv_i2l (v := n.toInt64) (pc := 163) hx hb dX6_putPassing_163 rfl ?_
                refine lv_iload_n (pc := 164) hx hb dX6_putPassing_164 rfl (lv_at hl 2 rfl) ?_
                refine lv_i2l (v := i.toInt64) (pc := 165) hx hb dX6_putPassing_165 rfl ?_
                refine lv_lmul (pc := 166) hx hb dX6_putPassing_166 ?_
                refine lv_ladd (pc := 167) hx hb dX6_putPassing_167 ?_
                refine g_topl (fun x16 ex16 => ?_)
                refine g_last (j := 5) (w1 := [(a 0, .inr (6, [.ref (a 1), .ref (a 2), .ref (a 3), .int (M.1 0), .ref (a 4), .ref (a 5), .int (M.1 1), .int (M.1 2), .int (M.1 3), .ref (a 6), .ref (a 7), .int (M.1 4), .int (M.1 5), .int (M.1 6), .long M.2.1])), (a 1, .inl (eJ E, 68, .inr (.inl (vp_updL (vp_updL (vp_updL M.2.2.1 0 x8) 1 x11) 5 x16)))), (a 2, .inl (eJ E, 68, .inr (.inl M.2.2.2.1))), (a 3, .inl (eJ E, 340, .inr (.inl M.2.2.2.2.1))), (a 4, .inl (eI E, 3, .inl M.2.2.2.2.2.1)), (a 5, .inl (eI E, 120, .inl M.2.2.2.2.2.2.1)), (a 6, .inl (eI E, 60, .inl M.2.2.2.2.2.2.2.1)), (a 7, .inl (eI E, 120, .inl M.2.2.2.2.2.2.2.2))]) (pc := 168) hx hb hK.1 hP hD hS 1 1 rfl rfl (g_in (by decide +kernel)) rfl rfl dX6_putPassing_168 (fun H locs hP hD hS => ?_)
                refine lv_aload_n (pc := 169) hx hb dX6_putPassing_169 rfl (lv_at hl 1 rfl) ?_
                refine g_get (v := .ref (a 1)) (pc := 170) hx hb hts ii_X6_putPassing_X6 hown hK.1 hP 0 rfl rfl 0 (by decide) ⟨rfl, rfl, rfl⟩ mm_X6_putPassing_5 rfl dX6_putPassing_170 ?_
                refine lv_bipush (v := 6) (pc := 173) hx hb dX6_putPassing_173 rfl ?_
                refine lv_dup2_11 (pc := 175) hx hb dX6_putPassing_175 rfl rfl ?_
                refine g_lald (j := 6) (v := (M.2.2.1 6)) (pc := 176) hx hb hK.1 hP 1 1 rfl rfl (g_in (by decide +kernel)) rfl rfl dX6_putPassing_176 ?_
                refine lv_iload_n (pc := 177) hx hb dX6_putPassing_177 rfl (lv_at hl 3 rfl) ?_
                refine lv_i2l (v := n.toInt64) (pc := 178) hx hb dX6_putPassing_178 rfl ?_
                refine lv_ladd (pc := 179) hx hb dX6_putPassing_179 ?_
                refine g_topl (fun x17 ex17 => ?_)
                refine g_last (j := 6) (w1 := [(a 0, .inr (6, [.ref (a 1), .ref (a 2), .ref (a 3), .int (M.1 0), .ref (a 4), .ref (a 5), .int (M.1 1), .int (M.1 2), .int (M.1 3), .ref (a 6), .ref (a 7), .int (M.1 4), .int (M.1 5), .int (M.1 6), .long M.2.1])), (a 1, .inl (eJ E, 68, .inr (.inl (vp_updL (vp_updL (vp_updL (vp_updL M.2.2.1 0 x8) 1 x11) 5 x16) 6 x17)))), (a 2, .inl (eJ E, 68, .inr (.inl M.2.2.2.1))), (a 3, .inl (eJ E, 340, .inr (.inl M.2.2.2.2.1))), (a 4, .inl (eI E, 3, .inl M.2.2.2.2.2.1)), (a 5, .inl (eI E, 120, .inl M.2.2.2.2.2.2.1)), (a 6, .inl (eI E, 60, .inl M.2.2.2.2.2.2.2.1)), (a 7, .inl (eI E, 120, .inl M.2.2.2.2.2.2.2.2))]) (pc := 180) hx hb hK.1 hP hD hS 1 1 rfl rfl (g_in (by decide +kernel)) rfl rfl dX6_putPassing_180 (fun H locs hP hD hS => ?_)
                refine lv_aload_n (pc := 181) hx hb dX6_putPassing_181 rfl (lv_at hl 1 rfl) ?_
                refine lv_iload_n (pc := 182) hx hb dX6_putPassing_182 rfl (lv_at hl 2 rfl) ?_
                refine lv_iload_n (pc := 183) hx hb dX6_putPassing_183 rfl (lv_at hl 3 rfl) ?_
                obtain ⟨r18, er18⟩ : ∃ z : Mdl, fX6_shows (M.1, M.2.1, (vp_updL (vp_updL (vp_updL (vp_updL M.2.2.1 0 x8) 1 x11) 5 x16) 6 x17), M.2.2.2.1, M.2.2.2.2.1, M.2.2.2.2.2.1, M.2.2.2.2.2.2.1, M.2.2.2.2.2.2.2.1, M.2.2.2.2.2.2.2.2) i n = z := ⟨_, rfl⟩
                have hr18 := kX6_shows l E a (M.1, M.2.1, (vp_updL (vp_updL (vp_updL (vp_updL M.2.2.1 0 x8) 1 x11) 5 x16) 6 x17), M.2.2.2.1, M.2.2.2.2.1, M.2.2.2.2.2.1, M.2.2.2.2.2.2.1, M.2.2.2.2.2.2.2.1, M.2.2.2.2.2.2.2.2) i n
                rw [er18] at hr18
                refine gcVv (pc := 184) (w1 := [(a 0, .inr (6, [.ref (a 1), .ref (a 2), .ref (a 3), .int (r18.1 0), .ref (a 4), .ref (a 5), .int (r18.1 1), .int (r18.1 2), .int (r18.1 3), .ref (a 6), .ref (a 7), .int (r18.1 4), .int (r18.1 5), .int (r18.1 6), .long r18.2.1])), (a 1, .inl (eJ E, 68, .inr (.inl r18.2.2.1))), (a 2, .inl (eJ E, 68, .inr (.inl r18.2.2.2.1))), (a 3, .inl (eJ E, 340, .inr (.inl r18.2.2.2.2.1))), (a 4, .inl (eI E, 3, .inl r18.2.2.2.2.2.1)), (a 5, .inl (eI E, 120, .inl r18.2.2.2.2.2.2.1)), (a 6, .inl (eI E, 60, .inl r18.2.2.2.2.2.2.2.1)), (a 7, .inl (eI E, 120, .inl r18.2.2.2.2.2.2.2.2))]) (pre := []) (post := []) (As := [.int i, .int n]) (rest := []) (q0 := 0) ⟨hx, hb, hml, hown, hts⟩ hr18 (cwV 2 hts gX6_putPassing_X6_shows rfl rfl rfl qvX6_shows ⟨Nat.le_of_ble_eq_true rfl, Nat.le_of_ble_eq_true rfl⟩) hK hP hD hS hA rfl rfl rfl rfl rfl hl.1 rfl (Nat.le_of_ble_eq_true rfl) dX6_putPassing_184 ⟨Nat.zero_le _, Nat.zero_le _⟩ (fun H locs hP hD hS => ?_)
                refine lv_lload (pc := 187) hx hb dX6_putPassing_187 (lv_at hl 0 rfl) ?_
                refine lv_lload (pc := 189) hx hb dX6_putPassing_189 (lv_at hl 5 rfl) ?_
                refine lv_lsub (pc := 191) hx hb dX6_putPassing_191 ?_
                refine lv_l2i (v := (x11 - x8).toInt32) (pc := 192) hx hb dX6_putPassing_192 rfl ?_
                subst er18
                subst ex17
                subst ex16
                subst ex11
                subst ex8
                subst ex6
                subst ex5
                subst er3
                subst er1
                have hfn : fX6_putPassing M i n = _ := (if_neg c_2).trans ((if_neg c_4).trans ((if_neg c_13).trans ((if_neg c_14).trans (if_pos c_15))))
                rw [hfn] at hQ
                exact hQ _ _ _ _ _ rfl hP hD hS dX6_putPassing_193
              · refine lv_ldc (v := (-10000003)) (pc := 136) hx hb hown (hts _ mm_X6_putPassing_6) dX6_putPassing_136 ?_
                subst ex11
                subst ex8
                subst ex6
                subst ex5
                subst er3
                subst er1
                have hfn : fX6_putPassing M i n = _ := (if_neg c_2).trans ((if_neg c_4).trans ((if_neg c_13).trans ((if_neg c_14).trans (if_neg c_15))))
                rw [hfn] at hQ
                exact hQ _ _ _ _ _ rfl hP hD hS dX6_putPassing_138
        refine gl_le (tgt := 105) (pc := 92) hx hb dX6_putPassing_92 dX6_putPassing_93 rfl (fun c_10 => ?_) (fun c_10 => ?_)
        · refine lv_lload (pc := 105) hx hb dX6_putPassing_105 (lv_at hl 5 rfl) ?_
          exact J_12 _ _ _ _ (if_pos c_10) hP hD hS (lv_sub hl [1, 2, 3, 4, 0, 5] rfl)
        · refine lv_aload_n (pc := 96) hx hb dX6_putPassing_96 rfl (lv_at hl 1 rfl) ?_
          refine g_get (v := .ref (a 1)) (pc := 97) hx hb hts ii_X6_putPassing_X6 hown hK.1 hP 0 rfl rfl 0 (by decide) ⟨rfl, rfl, rfl⟩ mm_X6_putPassing_5 rfl dX6_putPassing_97 ?_
          refine lv_iconst (v := 3) (pc := 100) hx hb dX6_putPassing_100 rfl ?_
          refine g_lald (j := 3) (v := (M.2.2.1 3)) (pc := 101) hx hb hK.1 hP 1 1 rfl rfl (g_in (by decide +kernel)) rfl rfl dX6_putPassing_101 ?_
          refine lv_goto (tgt := 107) (pc := 102) hx hb dX6_putPassing_102 (by decide) ?_
          exact J_12 _ _ _ _ (if_neg c_10) hP hD hS (lv_sub hl [1, 2, 3, 4, 0, 5] rfl)
      refine gl_ge (tgt := 80) (pc := 72) hx hb dX6_putPassing_72 dX6_putPassing_73 rfl (fun c_7 => ?_) (fun c_7 => ?_)
      · refine lv_lload (pc := 80) hx hb dX6_putPassing_80 (lv_at hl 1 rfl) ?_
        exact J_9 _ _ _ _ (if_pos c_7) hP hD hS (lv_sub hl [3, 4, 5, 2, 1, 0] rfl)
      · refine lv_lconst (v := 0) (pc := 76) hx hb dX6_putPassing_76 rfl ?_
        refine lv_goto (tgt := 82) (pc := 77) hx hb dX6_putPassing_77 (by decide) ?_
        exact J_9 _ _ _ _ (if_neg c_7) hP hD hS (lv_sub hl [3, 4, 5, 2, 1, 0] rfl)
    · refine lv_ldc (v := (-10000002)) (pc := 26) hx hb hown (hts _ mm_X6_putPassing_4) dX6_putPassing_26 ?_
      subst er3
      subst er1
      have hfn : fX6_putPassing M i n = _ := (if_neg c_2).trans (if_pos c_4)
      rw [hfn] at hQ
      exact hQ _ _ _ _ _ rfl hP hD hS dX6_putPassing_28

def fX6_learnsCapacity (M : Mdl) (ra : Int64) (rb : Int64) : Mdl :=
  let x1 : Int64 := (M.2.2.1 5) - ((M.2.2.1 11) * (M.2.2.1 6))
  let x2 : Int64 := (M.2.2.1 5) + ((M.2.2.1 11) * (M.2.2.1 6))
  let x3 : Int64 := (M.2.2.1 10) - ra
  let x5 : Int64 := (if x1 ≤ 0 then (M.2.2.1 2) else (if x3 ≤ 0 then (M.2.2.1 2) else (let x6 : Int64 := (1000 * x1) / x3; (let x8 : Int64 := (if x6 ≤ (M.2.2.1 2) then (M.2.2.1 2) else x6); x8))))
  let x7 : Int64 := (M.2.2.1 9) - rb
  let x9 : Int64 := (if x2 ≤ 0 then (M.2.2.1 3) else (if x7 ≤ 0 then (M.2.2.1 3) else (let x10 : Int64 := (((1000 * x2) + x7) - 1) / x7; (let x12 : Int64 := (if (M.2.2.1 3) ≤ x10 then (M.2.2.1 3) else x10); x12))))
  let x12 : Nat → Int64 := (if x5 ≤ x9 then (vp_updL (vp_updL M.2.2.1 2 x5) 3 x9) else (let x12 : Int64 := (M.2.2.1 7) + 1; (vp_updL M.2.2.1 7 x12)))
  (M.1, M.2.1, x12, M.2.2.2.1, M.2.2.2.2.1, M.2.2.2.2.2.1, M.2.2.2.2.2.2.1, M.2.2.2.2.2.2.2.1, M.2.2.2.2.2.2.2.2)
abbrev rX6_learnsCapacity : Room := { frames := 0, cells := 0, slots := 0, locals := 0 }
theorem mm_X6_learnsCapacity_1 : Cond.fieldLink RX6 7 "GaugeBoundsModel" "now" "[J" ∈ wsX6_learnsCapacity := List.mem_of_getElem? (i := 1) rfl
theorem mm_X6_learnsCapacity_2 : Cond.constantLong RX6 32 (1000) ∈ wsX6_learnsCapacity := List.mem_of_getElem? (i := 2) rfl
theorem ii_X6_learnsCapacity_X6 : ∀ w ∈ wsX60, w ∈ wsX6_learnsCapacity := fun _ h => List.mem_cons_of_mem _ (List.mem_append_right _ (h))
theorem qvX6_learnsCapacity : yX6_learnsCapacity.cls = RX6 ∧ yX6_learnsCapacity.cls ≠ "java/lang/invoke/MethodHandle" ∧ yX6_learnsCapacity.cls ≠ "java/lang/invoke/VarHandle" ∧ (parseMethodDescriptor yX6_learnsCapacity.desc).map (fun d => d.parameters.length) = some 2 := by decide +kernel
set_option maxHeartbeats 4000000 in
set_option maxRecDepth 100000 in
theorem kX6_learnsCapacity (l : Launch) (E : gEnv) (a : Nat → Nat) (M : Mdl) (ra : Int64) (rb : Int64) : gMv l E yX6_learnsCapacity wsX6_learnsCapacity rX6_learnsCapacity [.ref (a 0), .long ra, .long rb] (wM E a M) (wM E a (fX6_learnsCapacity M ra rb)) := by
  refine gMv_of (cc := cX6_learnsCapacity) (maxL := 17) (ret := none) (by decide) rfl rfl (Nat.le_of_ble_eq_true rfl) ?_
  intro p e s m args below meth c A Q ls hB hQ
  obtain ⟨hx, hb, hml, hown, hts, hK, hP, hD, hA, hS, hl⟩ := hB
  have hown : s.vm.findClass RX6 = some m.cls := hown
  have hP : va_P E.1 vwCl [(a 0, .inr (6, [.ref (a 1), .ref (a 2), .ref (a 3), .int (M.1 0), .ref (a 4), .ref (a 5), .int (M.1 1), .int (M.1 2), .int (M.1 3), .ref (a 6), .ref (a 7), .int (M.1 4), .int (M.1 5), .int (M.1 6), .long M.2.1])), (a 1, .inl (eJ E, 68, .inr (.inl M.2.2.1))), (a 2, .inl (eJ E, 68, .inr (.inl M.2.2.2.1))), (a 3, .inl (eJ E, 340, .inr (.inl M.2.2.2.2.1))), (a 4, .inl (eI E, 3, .inl M.2.2.2.2.2.1)), (a 5, .inl (eI E, 120, .inl M.2.2.2.2.2.2.1)), (a 6, .inl (eI E, 60, .inl M.2.2.2.2.2.2.2.1)), (a 7, .inl (eI E, 120, .inl M.2.2.2.2.2.2.2.2))] s.heap := hP
  have hD : va_D A [(a 0, .inr (6, [.ref (a 1), .ref (a 2), .ref (a 3), .int (M.1 0), .ref (a 4), .ref (a 5), .int (M.1 1), .int (M.1 2), .int (M.1 3), .ref (a 6), .ref (a 7), .int (M.1 4), .int (M.1 5), .int (M.1 6), .long M.2.1])), (a 1, .inl (eJ E, 68, .inr (.inl M.2.2.1))), (a 2, .inl (eJ E, 68, .inr (.inl M.2.2.2.1))), (a 3, .inl (eJ E, 340, .inr (.inl M.2.2.2.2.1))), (a 4, .inl (eI E, 3, .inl M.2.2.2.2.2.1)), (a 5, .inl (eI E, 120, .inl M.2.2.2.2.2.2.1)), (a 6, .inl (eI E, 60, .inl M.2.2.2.2.2.2.2.1)), (a 7, .inl (eI E, 120, .inl M.2.2.2.2.2.2.2.2))] := hD
  have hl : lv_has ls 17 [(0, .ref (a 0)), (1, .long ra), (3, .long rb)] := hl
  refine lv_aload_n (pc := 0) hx hb dX6_learnsCapacity_0 rfl (lv_at hl 0 rfl) ?_
  refine g_get (v := .ref (a 1)) (pc := 1) hx hb hts ii_X6_learnsCapacity_X6 hown hK.1 hP 0 rfl rfl 0 (by decide) ⟨rfl, rfl, rfl⟩ mm_X6_learnsCapacity_1 rfl dX6_learnsCapacity_1 ?_
  refine lv_iconst (v := 5) (pc := 4) hx hb dX6_learnsCapacity_4 rfl ?_
  refine g_lald (j := 5) (v := (M.2.2.1 5)) (pc := 5) hx hb hK.1 hP 1 1 rfl rfl (g_in (by decide +kernel)) rfl rfl dX6_learnsCapacity_5 ?_
  refine lv_aload_n (pc := 6) hx hb dX6_learnsCapacity_6 rfl (lv_at hl 0 rfl) ?_
  refine g_get (v := .ref (a 1)) (pc := 7) hx hb hts ii_X6_learnsCapacity_X6 hown hK.1 hP 0 rfl rfl 0 (by decide) ⟨rfl, rfl, rfl⟩ mm_X6_learnsCapacity_1 rfl dX6_learnsCapacity_7 ?_
  refine lv_bipush (v := 11) (pc := 10) hx hb dX6_learnsCapacity_10 rfl ?_
  refine g_lald (j := 11) (v := (M.2.2.1 11)) (pc := 12) hx hb hK.1 hP 1 1 rfl rfl (g_in (by decide +kernel)) rfl rfl dX6_learnsCapacity_12 ?_
  refine lv_aload_n (pc := 13) hx hb dX6_learnsCapacity_13 rfl (lv_at hl 0 rfl) ?_
  refine g_get (v := .ref (a 1)) (pc := 14) hx hb hts ii_X6_learnsCapacity_X6 hown hK.1 hP 0 rfl rfl 0 (by decide) ⟨rfl, rfl, rfl⟩ mm_X6_learnsCapacity_1 rfl dX6_learnsCapacity_14 ?_
  refine lv_bipush (v := 6) (pc := 17) hx hb dX6_learnsCapacity_17 rfl ?_
  refine g_lald (j := 6) (v := (M.2.2.1 6)) (pc := 19) hx hb hK.1 hP 1 1 rfl rfl (g_in (by decide +kernel)) rfl rfl dX6_learnsCapacity_19 ?_
  refine lv_lmul (pc := 20) hx hb dX6_learnsCapacity_20 ?_
  refine lv_lsub (pc := 21) hx hb dX6_learnsCapacity_21 ?_
  refine g_topl (fun x1 ex1 => ?_)
  refine lv_lstore (lv' := [(5, .long x1), (0, .ref (a 0)), (1, .long ra), (3, .long rb)]) (pc := 22) hx hb dX6_learnsCapacity_22 hl (by decide) rfl (fun ls hl => ?_)
  refine lv_aload_n (pc := 24) hx hb dX6_learnsCapacity_24 rfl (lv_at hl 1 rfl) ?_
  refine g_get (v := .ref (a 1)) (pc := 25) hx hb hts ii_X6_learnsCapacity_X6 hown hK.1 hP 0 rfl rfl 0 (by decide) ⟨rfl, rfl, rfl⟩ mm_X6_learnsCapacity_1 rfl dX6_learnsCapacity_25 ?_
  refine lv_iconst (v := 5) (pc := 28) hx hb dX6_learnsCapacity_28 rfl ?_
  refine g_lald (j := 5) (v := (M.2.2.1 5)) (pc := 29) hx hb hK.1 hP 1 1 rfl rfl (g_in (by decide +kernel)) rfl rfl dX6_learnsCapacity_29 ?_
  refine lv_aload_n (pc := 30) hx hb dX6_learnsCapacity_30 rfl (lv_at hl 1 rfl) ?_
  refine g_get (v := .ref (a 1)) (pc := 31) hx hb hts ii_X6_learnsCapacity_X6 hown hK.1 hP 0 rfl rfl 0 (by decide) ⟨rfl, rfl, rfl⟩ mm_X6_learnsCapacity_1 rfl dX6_learnsCapacity_31 ?_
  refine lv_bipush (v := 11) (pc := 34) hx hb dX6_learnsCapacity_34 rfl ?_
  refine g_lald (j := 11) (v := (M.2.2.1 11)) (pc := 36) hx hb hK.1 hP 1 1 rfl rfl (g_in (by decide +kernel)) rfl rfl dX6_learnsCapacity_36 ?_
  refine lv_aload_n (pc := 37) hx hb dX6_learnsCapacity_37 rfl (lv_at hl 1 rfl) ?_
  refine g_get (v := .ref (a 1)) (pc := 38) hx hb hts ii_X6_learnsCapacity_X6 hown hK.1 hP 0 rfl rfl 0 (by decide) ⟨rfl, rfl, rfl⟩ mm_X6_learnsCapacity_1 rfl dX6_learnsCapacity_38 ?_
  refine lv_bipush (v := 6) (pc := 41) hx hb dX6_learnsCapacity_41 rfl ?_
  refine g_lald (j := 6) (v := (M.2.2.1 6)) (pc := 43) hx hb hK.1 hP 1 1 rfl rfl (g_in (by decide +kernel)) rfl rfl dX6_learnsCapacity_43 ?_
  refine lv_lmul (pc := 44) hx hb dX6_learnsCapacity_44 ?_
  refine lv_ladd (pc := 45) hx hb dX6_learnsCapacity_45 ?_
  refine g_topl (fun x2 ex2 => ?_)
  refine lv_lstore (lv' := [(7, .long x2), (5, .long x1), (0, .ref (a 0)), (1, .long ra), (3, .long rb)]) (pc := 46) hx hb dX6_learnsCapacity_46 hl (by decide) rfl (fun ls hl => ?_)
  refine lv_aload_n (pc := 48) hx hb dX6_learnsCapacity_48 rfl (lv_at hl 2 rfl) ?_
  refine g_get (v := .ref (a 1)) (pc := 49) hx hb hts ii_X6_learnsCapacity_X6 hown hK.1 hP 0 rfl rfl 0 (by decide) ⟨rfl, rfl, rfl⟩ mm_X6_learnsCapacity_1 rfl dX6_learnsCapacity_49 ?_
  refine lv_iconst (v := 2) (pc := 52) hx hb dX6_learnsCapacity_52 rfl ?_
  refine g_lald (j := 2) (v := (M.2.2.1 2)) (pc := 53) hx hb hK.1 hP 1 1 rfl rfl (g_in (by decide +kernel)) rfl rfl dX6_learnsCapacity_53 ?_
  refine lv_lstore (lv' := [(9, .long (M.2.2.1 2)), (7, .long x2), (5, .long x1), (0, .ref (a 0)), (1, .long ra), (3, .long rb)]) (pc := 54) hx hb dX6_learnsCapacity_54 hl (by decide) rfl (fun ls hl => ?_)
  refine lv_aload_n (pc := 56) hx hb dX6_learnsCapacity_56 rfl (lv_at hl 3 rfl) ?_
  refine g_get (v := .ref (a 1)) (pc := 57) hx hb hts ii_X6_learnsCapacity_X6 hown hK.1 hP 0 rfl rfl 0 (by decide) ⟨rfl, rfl, rfl⟩ mm_X6_learnsCapacity_1 rfl dX6_learnsCapacity_57 ?_
  refine lv_iconst (v := 3) (pc := 60) hx hb dX6_learnsCapacity_60 rfl ?_
  refine g_lald (j := 3) (v := (M.2.2.1 3)) (pc := 61) hx hb hK.1 hP 1 1 rfl rfl (g_in (by decide +kernel)) rfl rfl dX6_learnsCapacity_61 ?_
  refine lv_lstore (lv' := [(11, .long (M.2.2.1 3)), (9, .long (M.2.2.1 2)), (7, .long x2), (5, .long x1), (0, .ref (a 0)), (1, .long ra), (3, .long rb)]) (pc := 62) hx hb dX6_learnsCapacity_62 hl (by decide) rfl (fun ls hl => ?_)
  refine lv_aload_n (pc := 64) hx hb dX6_learnsCapacity_64 rfl (lv_at hl 4 rfl) ?_
  refine g_get (v := .ref (a 1)) (pc := 65) hx hb hts ii_X6_learnsCapacity_X6 hown hK.1 hP 0 rfl rfl 0 (by decide) ⟨rfl, rfl, rfl⟩ mm_X6_learnsCapacity_1 rfl dX6_learnsCapacity_65 ?_
  refine lv_bipush (v := 10) (pc := 68) hx hb dX6_learnsCapacity_68 rfl ?_
  refine g_lald (j := 10) (v := (M.2.2.1 10)) (pc := 70) hx hb hK.1 hP 1 1 rfl rfl (g_in (by decide +kernel)) rfl rfl dX6_learnsCapacity_70 ?_
  refine lv_lload_n (pc := 71) hx hb dX6_learnsCapacity_71 rfl (lv_at hl 5 rfl) ?_
  refine lv_lsub (pc := 72) hx hb dX6_learnsCapacity_72 ?_
  refine g_topl (fun x3 ex3 => ?_)
  refine lv_lstore (lv' := [(13, .long x3), (11, .long (M.2.2.1 3)), (9, .long (M.2.2.1 2)), (7, .long x2), (5, .long x1), (0, .ref (a 0)), (1, .long ra), (3, .long rb)]) (pc := 73) hx hb dX6_learnsCapacity_73 hl (by decide) rfl (fun ls hl => ?_)
  refine lv_lload (pc := 75) hx hb dX6_learnsCapacity_75 (lv_at hl 4 rfl) ?_
  refine lv_lconst (v := 0) (pc := 77) hx hb dX6_learnsCapacity_77 rfl ?_
  have J_6 : ∀ (H : Heap) (locs : List Loc) (ls : Array Slot) (x5 : Int64), (if x1 ≤ 0 then (M.2.2.1 2) else (if x3 ≤ 0 then (M.2.2.1 2) else (let x6 : Int64 := (1000 * x1) / x3; (let x8 : Int64 := (if x6 ≤ (M.2.2.1 2) then (M.2.2.1 2) else x6); x8)))) = x5 → va_P E.1 vwCl [(a 0, .inr (6, [.ref (a 1), .ref (a 2), .ref (a 3), .int (M.1 0), .ref (a 4), .ref (a 5), .int (M.1 1), .int (M.1 2), .int (M.1 3), .ref (a 6), .ref (a 7), .int (M.1 4), .int (M.1 5), .int (M.1 6), .long M.2.1])), (a 1, .inl (eJ E, 68, .inr (.inl M.2.2.1))), (a 2, .inl (eJ E, 68, .inr (.inl M.2.2.2.1))), (a 3, .inl (eJ E, 340, .inr (.inl M.2.2.2.2.1))), (a 4, .inl (eI E, 3, .inl M.2.2.2.2.2.1)), (a 5, .inl (eI E, 120, .inl M.2.2.2.2.2.2.1)), (a 6, .inl (eI E, 60, .inl M.2.2.2.2.2.2.2.1)), (a 7, .inl (eI E, 120, .inl M.2.2.2.2.2.2.2.2))] H → va_D A [(a 0, .inr (6, [.ref (a 1), .ref (a 2), .ref (a 3), .int (M.1 0), .ref (a 4), .ref (a 5), .int (M.1 1), .int (M.1 2), .int (M.1 3), .ref (a 6), .ref (a 7), .int (M.1 4), .int (M.1 5), .int (M.1 6), .long M.2.1])), (a 1, .inl (eJ E, 68, .inr (.inl M.2.2.1))), (a 2, .inl (eJ E, 68, .inr (.inl M.2.2.2.1))), (a 3, .inl (eJ E, 340, .inr (.inl M.2.2.2.2.1))), (a 4, .inl (eI E, 3, .inl M.2.2.2.2.2.1)), (a 5, .inl (eI E, 120, .inl M.2.2.2.2.2.2.1)), (a 6, .inl (eI E, 60, .inl M.2.2.2.2.2.2.2.1)), (a 7, .inl (eI E, 120, .inl M.2.2.2.2.2.2.2.2))] → va_S A s.heap H locs → lv_has ls 17 [(0, .ref (a 0)), (1, .long ra), (3, .long rb), (5, .long x1), (7, .long x2), (9, .long x5), (11, .long (M.2.2.1 3)), (13, .long x3)] → W p l e rX6_learnsCapacity s m args below meth c H locs 0 0 Q (F0 m 117 ls []) := by
    intro H locs ls x5 ex5 hP hD hS hl
    refine lv_aload_n (pc := 117) hx hb dX6_learnsCapacity_117 rfl (lv_at hl 0 rfl) ?_
    refine g_get (v := .ref (a 1)) (pc := 118) hx hb hts ii_X6_learnsCapacity_X6 hown hK.1 hP 0 rfl rfl 0 (by decide) ⟨rfl, rfl, rfl⟩ mm_X6_learnsCapacity_1 rfl dX6_learnsCapacity_118 ?_
    refine lv_bipush (v := 9) (pc := 121) hx hb dX6_learnsCapacity_121 rfl ?_
    refine g_lald (j := 9) (v := (M.2.2.1 9)) (pc := 123) hx hb hK.1 hP 1 1 rfl rfl (g_in (by decide +kernel)) rfl rfl dX6_learnsCapacity_123 ?_
    refine lv_lload_n (pc := 124) hx hb dX6_learnsCapacity_124 rfl (lv_at hl 2 rfl) ?_
    refine lv_lsub (pc := 125) hx hb dX6_learnsCapacity_125 ?_
    refine g_topl (fun x7 ex7 => ?_)
    refine lv_lstore (lv' := [(13, .long x7), (0, .ref (a 0)), (1, .long ra), (3, .long rb), (5, .long x1), (7, .long x2), (9, .long x5), (11, .long (M.2.2.1 3))]) (pc := 126) hx hb dX6_learnsCapacity_126 hl (by decide) rfl (fun ls hl => ?_)
    refine lv_lload (pc := 128) hx hb dX6_learnsCapacity_128 (lv_at hl 5 rfl) ?_
    refine lv_lconst (v := 0) (pc := 130) hx hb dX6_learnsCapacity_130 rfl ?_
    have J_10 : ∀ (H : Heap) (locs : List Loc) (ls : Array Slot) (x9 : Int64), (if x2 ≤ 0 then (M.2.2.1 3) else (if x7 ≤ 0 then (M.2.2.1 3) else (let x10 : Int64 := (((1000 * x2) + x7) - 1) / x7; (let x12 : Int64 := (if (M.2.2.1 3) ≤ x10 then (M.2.2.1 3) else x10); x12)))) = x9 → va_P E.1 vwCl [(a 0, .inr (6, [.ref (a 1), .ref (a 2), .ref (a 3), .int (M.1 0), .ref (a 4), .ref (a 5), .int (M.1 1), .int (M.1 2), .int (M.1 3), .ref (a 6), .ref (a 7), .int (M.1 4), .int (M.1 5), .int (M.1 6), .long M.2.1])), (a 1, .inl (eJ E, 68, .inr (.inl M.2.2.1))), (a 2, .inl (eJ E, 68, .inr (.inl M.2.2.2.1))), (a 3, .inl (eJ E, 340, .inr (.inl M.2.2.2.2.1))), (a 4, .inl (eI E, 3, .inl M.2.2.2.2.2.1)), (a 5, .inl (eI E, 120, .inl M.2.2.2.2.2.2.1)), (a 6, .inl (eI E, 60, .inl M.2.2.2.2.2.2.2.1)), (a 7, .inl (eI E, 120, .inl M.2.2.2.2.2.2.2.2))] H → va_D A [(a 0, .inr (6, [.ref (a 1), .ref (a 2), .ref (a 3), .int (M.1 0), .ref (a 4), .ref (a 5), .int (M.1 1), .int (M.1 2), .int (M.1 3), .ref (a 6), .ref (a 7), .int (M.1 4), .int (M.1 5), .int (M.1 6), .long M.2.1])), (a 1, .inl (eJ E, 68, .inr (.inl M.2.2.1))), (a 2, .inl (eJ E, 68, .inr (.inl M.2.2.2.1))), (a 3, .inl (eJ E, 340, .inr (.inl M.2.2.2.2.1))), (a 4, .inl (eI E, 3, .inl M.2.2.2.2.2.1)), (a 5, .inl (eI E, 120, .inl M.2.2.2.2.2.2.1)), (a 6, .inl (eI E, 60, .inl M.2.2.2.2.2.2.2.1)), (a 7, .inl (eI E, 120, .inl M.2.2.2.2.2.2.2.2))] → va_S A s.heap H locs → lv_has ls 17 [(0, .ref (a 0)), (1, .long ra), (3, .long rb), (5, .long x1), (7, .long x2), (9, .long x5), (11, .long x9), (13, .long x7)] → W p l e rX6_learnsCapacity s m args below meth c H locs 0 0 Q (F0 m 175 ls []) := by
      intro H locs ls x9 ex9 hP hD hS hl
      refine lv_lload (pc := 175) hx hb dX6_learnsCapacity_175 (lv_at hl 5 rfl) ?_
      refine lv_lload (pc := 177) hx hb dX6_learnsCapacity_177 (lv_at hl 6 rfl) ?_
      have J_13 : ∀ (H : Heap) (locs : List Loc) (ls : Array Slot) (x12 : Nat → Int64), (if x5 ≤ x9 then (vp_updL (vp_updL M.2.2.1 2 x5) 3 x9) else (let x12 : Int64 := (M.2.2.1 7) + 1; (vp_updL M.2.2.1 7 x12))) = x12 → va_P E.1 vwCl [(a 0, .inr (6, [.ref (a 1), .ref (a 2), .ref (a 3), .int (M.1 0), .ref (a 4), .ref (a 5), .int (M.1 1), .int (M.1 2), .int (M.1 3), .ref (a 6), .ref (a 7), .int (M.1 4), .int (M.1 5), .int (M.1 6), .long M.2.1])), (a 1, .inl (eJ E, 68, .inr (.inl x12))), (a 2, .inl (eJ E, 68, .inr (.inl M.2.2.2.1))), (a 3, .inl (eJ E, 340, .inr (.inl M.2.2.2.2.1))), (a 4, .inl (eI E, 3, .inl M.2.2.2.2.2.1)), (a 5, .inl (eI E, 120, .inl M.2.2.2.2.2.2.1)), (a 6, .inl (eI E, 60, .inl M.2.2.2.2.2.2.2.1)), (a 7, .inl (eI E, 120, .inl M.2.2.2.2.2.2.2.2))] H → va_D A [(a 0, .inr (6, [.ref (a 1), .ref (a 2), .ref (a 3), .int (M.1 0), .ref (a 4), .ref (a 5), .int (M.1 1), .int (M.1 2), .int (M.1 3), .ref (a 6), .ref (a 7), .int (M.1 4), .int (M.1 5), .int (M.1 6), .long M.2.1])), (a 1, .inl (eJ E, 68, .inr (.inl x12))), (a 2, .inl (eJ E, 68, .inr (.inl M.2.2.2.1))), (a 3, .inl (eJ E, 340, .inr (.inl M.2.2.2.2.1))), (a 4, .inl (eI E, 3, .inl M.2.2.2.2.2.1)), (a 5, .inl (eI E, 120, .inl M.2.2.2.2.2.2.1)), (a 6, .inl (eI E, 60, .inl M.2.2.2.2.2.2.2.1)), (a 7, .inl (eI E, 120, .inl M.2.2.2.2.2.2.2.2))] → va_S A s.heap H locs → lv_has ls 17 [(0, .ref (a 0)), (1, .long ra), (3, .long rb), (5, .long x1), (7, .long x2), (9, .long x5), (11, .long x9), (13, .long x7)] → W p l e rX6_learnsCapacity s m args below meth c H locs 0 0 Q (F0 m 213 ls []) := by
        intro H locs ls x12 ex12 hP hD hS hl
        subst ex12
        subst ex9
        subst ex7
        subst ex5
        subst ex3
        subst ex2
        subst ex1
        exact hQ _ _ _ _ hP hD hS dX6_learnsCapacity_213
      refine gl_le (tgt := 197) (pc := 179) hx hb dX6_learnsCapacity_179 dX6_learnsCapacity_180 rfl (fun c_11 => ?_) (fun c_11 => ?_)
      · refine lv_aload_n (pc := 197) hx hb dX6_learnsCapacity_197 rfl (lv_at hl 0 rfl) ?_
        refine g_get (v := .ref (a 1)) (pc := 198) hx hb hts ii_X6_learnsCapacity_X6 hown hK.1 hP 0 rfl rfl 0 (by decide) ⟨rfl, rfl, rfl⟩ mm_X6_learnsCapacity_1 rfl dX6_learnsCapacity_198 ?_
        refine lv_iconst (v := 2) (pc := 201) hx hb dX6_learnsCapacity_201 rfl ?_
        refine lv_lload (pc := 202) hx hb dX6_learnsCapacity_202 (lv_at hl 5 rfl) ?_
        refine g_last (j := 2) (w1 := [(a 0, .inr (6, [.ref (a 1), .ref (a 2), .ref (a 3), .int (M.1 0), .ref (a 4), .ref (a 5), .int (M.1 1), .int (M.1 2), .int (M.1 3), .ref (a 6), .ref (a 7), .int (M.1 4), .int (M.1 5), .int (M.1 6), .long M.2.1])), (a 1, .inl (eJ E, 68, .inr (.inl (vp_updL M.2.2.1 2 x5)))), (a 2, .inl (eJ E, 68, .inr (.inl M.2.2.2.1))), (a 3, .inl (eJ E, 340, .inr (.inl M.2.2.2.2.1))), (a 4, .inl (eI E, 3, .inl M.2.2.2.2.2.1)), (a 5, .inl (eI E, 120, .inl M.2.2.2.2.2.2.1)), (a 6, .inl (eI E, 60, .inl M.2.2.2.2.2.2.2.1)), (a 7, .inl (eI E, 120, .inl M.2.2.2.2.2.2.2.2))]) (pc := 204) hx hb hK.1 hP hD hS 1 1 rfl rfl (g_in (by decide +kernel)) rfl rfl dX6_learnsCapacity_204 (fun H locs hP hD hS => ?_)
        refine lv_aload_n (pc := 205) hx hb dX6_learnsCapacity_205 rfl (lv_at hl 0 rfl) ?_
        refine g_get (v := .ref (a 1)) (pc := 206) hx hb hts ii_X6_learnsCapacity_X6 hown hK.1 hP 0 rfl rfl 0 (by decide) ⟨rfl, rfl, rfl⟩ mm_X6_learnsCapacity_1 rfl dX6_learnsCapacity_206 ?_
        refine lv_iconst (v := 3) (pc := 209) hx hb dX6_learnsCapacity_209 rfl ?_
        refine lv_lload (pc := 210) hx hb dX6_learnsCapacity_210 (lv_at hl 6 rfl) ?_
        refine g_last (j := 3) (w1 := [(a 0, .inr (6, [.ref (a 1), .ref (a 2), .ref (a 3), .int (M.1 0), .ref (a 4), .ref (a 5), .int (M.1 1), .int (M.1 2), .int (M.1 3), .ref (a 6), .ref (a 7), .int (M.1 4), .int (M.1 5), .int (M.1 6), .long M.2.1])), (a 1, .inl (eJ E, 68, .inr (.inl (vp_updL (vp_updL M.2.2.1 2 x5) 3 x9)))), (a 2, .inl (eJ E, 68, .inr (.inl M.2.2.2.1))), (a 3, .inl (eJ E, 340, .inr (.inl M.2.2.2.2.1))), (a 4, .inl (eI E, 3, .inl M.2.2.2.2.2.1)), (a 5, .inl (eI E, 120, .inl M.2.2.2.2.2.2.1)), (a 6, .inl (eI E, 60, .inl M.2.2.2.2.2.2.2.1)), (a 7, .inl (eI E, 120, .inl M.2.2.2.2.2.2.2.2))]) (pc := 212) hx hb hK.1 hP hD hS 1 1 rfl rfl (g_in (by decide +kernel)) rfl rfl dX6_learnsCapacity_212 (fun H locs hP hD hS => ?_)
        exact J_13 _ _ _ _ (if_pos c_11) hP hD hS (lv_sub hl [0, 1, 2, 3, 4, 5, 6, 7] rfl)
      · refine lv_aload_n (pc := 183) hx hb dX6_learnsCapacity_183 rfl (lv_at hl 0 rfl) ?_
        refine g_get (v := .ref (a 1)) (pc := 184) hx hb hts ii_X6_learnsCapacity_X6 hown hK.1 hP 0 rfl rfl 0 (by decide) ⟨rfl, rfl, rfl⟩ mm_X6_learnsCapacity_1 rfl dX6_learnsCapacity_184 ?_
        refine lv_bipush (v := 7) (pc := 187) hx hb dX6_learnsCapacity_187 rfl ?_
        refine lv_dup2_11 (pc := 189) hx hb dX6_learnsCapacity_189 rfl rfl ?_
        refine g_lald (j := 7) (v := (M.2.2.1 7)) (pc := 190) hx hb hK.1 hP 1 1 rfl rfl (g_in (by decide +kernel)) rfl rfl dX6_learnsCapacity_190 ?_
        refine lv_lconst (v := 1) (pc := 191) hx hb dX6_learnsCapacity_191 rfl ?_
        refine lv_ladd (pc := 192) hx hb dX6_learnsCapacity_192 ?_
        refine g_topl (fun x12 ex12 => ?_)
        refine g_last (j := 7) (w1 := [(a 0, .inr (6, [.ref (a 1), .ref (a 2), .ref (a 3), .int (M.1 0), .ref (a 4), .ref (a 5), .int (M.1 1), .int (M.1 2), .int (M.1 3), .ref (a 6), .ref (a 7), .int (M.1 4), .int (M.1 5), .int (M.1 6), .long M.2.1])), (a 1, .inl (eJ E, 68, .inr (.inl (vp_updL M.2.2.1 7 x12)))), (a 2, .inl (eJ E, 68, .inr (.inl M.2.2.2.1))), (a 3, .inl (eJ E, 340, .inr (.inl M.2.2.2.2.1))), (a 4, .inl (eI E, 3, .inl M.2.2.2.2.2.1)), (a 5, .inl (eI E, 120, .inl M.2.2.2.2.2.2.1)), (a 6, .inl (eI E, 60, .inl M.2.2.2.2.2.2.2.1)), (a 7, .inl (eI E, 120, .inl M.2.2.2.2.2.2.2.2))]) (pc := 193) hx hb hK.1 hP hD hS 1 1 rfl rfl (g_in (by decide +kernel)) rfl rfl dX6_learnsCapacity_193 (fun H locs hP hD hS => ?_)
        refine lv_goto (tgt := 213) (pc := 194) hx hb dX6_learnsCapacity_194 (by decide) ?_
        subst ex12
        exact J_13 _ _ _ _ (if_neg c_11) hP hD hS (lv_sub hl [0, 1, 2, 3, 4, 5, 6, 7] rfl)
    refine gl_le (tgt := 175) (pc := 131) hx hb dX6_learnsCapacity_131 dX6_learnsCapacity_132 rfl (fun c_8 => ?_) (fun c_8 => ?_)
    · exact J_10 _ _ _ _ (if_pos c_8) hP hD hS (lv_sub hl [1, 2, 3, 4, 5, 6, 7, 0] rfl)
    · refine lv_lload (pc := 135) hx hb dX6_learnsCapacity_135 (lv_at hl 0 rfl) ?_
      refine lv_lconst (v := 0) (pc := 137) hx hb dX6_learnsCapacity_137 rfl ?_
      refine gl_le (tgt := 175) (pc := 138) hx hb dX6_learnsCapacity_138 dX6_learnsCapacity_139 rfl (fun c_9 => ?_) (fun c_9 => ?_)
      · exact J_10 _ _ _ _ ((if_neg c_8).trans (if_pos c_9)) hP hD hS (lv_sub hl [1, 2, 3, 4, 5, 6, 7, 0] rfl)
      · refine lv_ldc2 (v := (1000)) (pc := 142) hx hb hown (hts _ mm_X6_learnsCapacity_2) dX6_learnsCapacity_142 ?_
        refine lv_lload (pc := 145) hx hb dX6_learnsCapacity_145 (lv_at hl 5 rfl) ?_
        refine lv_lmul (pc := 147) hx hb dX6_learnsCapacity_147 ?_
        refine lv_lload (pc := 148) hx hb dX6_learnsCapacity_148 (lv_at hl 0 rfl) ?_
        refine lv_ladd (pc := 150) hx hb dX6_learnsCapacity_150 ?_
        refine lv_lconst (v := 1) (pc := 151) hx hb dX6_learnsCapacity_151 rfl ?_
        refine lv_lsub (pc := 152) hx hb dX6_learnsCapacity_152 ?_
        refine lv_lload (pc := 153) hx hb dX6_learnsCapacity_153 (lv_at hl 0 rfl) ?_
        refine lv_ldiv (pc := 155) hx hb dX6_learnsCapacity_155 (by subst_vars; exact nz_ps c_9) ?_
        refine g_topl (fun x10 ex10 => ?_)
        refine lv_lstore (lv' := [(15, .long x10), (13, .long x7), (0, .ref (a 0)), (1, .long ra), (3, .long rb), (5, .long x1), (7, .long x2), (9, .long x5), (11, .long (M.2.2.1 3))]) (pc := 156) hx hb dX6_learnsCapacity_156 hl (by decide) rfl (fun ls hl => ?_)
        refine lv_lload (pc := 158) hx hb dX6_learnsCapacity_158 (lv_at hl 0 rfl) ?_
        refine lv_lload (pc := 160) hx hb dX6_learnsCapacity_160 (lv_at hl 8 rfl) ?_
        have J_13 : ∀ (H : Heap) (locs : List Loc) (ls : Array Slot) (x12 : Int64), (if (M.2.2.1 3) ≤ x10 then (M.2.2.1 3) else x10) = x12 → va_P E.1 vwCl [(a 0, .inr (6, [.ref (a 1), .ref (a 2), .ref (a 3), .int (M.1 0), .ref (a 4), .ref (a 5), .int (M.1 1), .int (M.1 2), .int (M.1 3), .ref (a 6), .ref (a 7), .int (M.1 4), .int (M.1 5), .int (M.1 6), .long M.2.1])), (a 1, .inl (eJ E, 68, .inr (.inl M.2.2.1))), (a 2, .inl (eJ E, 68, .inr (.inl M.2.2.2.1))), (a 3, .inl (eJ E, 340, .inr (.inl M.2.2.2.2.1))), (a 4, .inl (eI E, 3, .inl M.2.2.2.2.2.1)), (a 5, .inl (eI E, 120, .inl M.2.2.2.2.2.2.1)), (a 6, .inl (eI E, 60, .inl M.2.2.2.2.2.2.2.1)), (a 7, .inl (eI E, 120, .inl M.2.2.2.2.2.2.2.2))] H → va_D A [(a 0, .inr (6, [.ref (a 1), .ref (a 2), .ref (a 3), .int (M.1 0), .ref (a 4), .ref (a 5), .int (M.1 1), .int (M.1 2), .int (M.1 3), .ref (a 6), .ref (a 7), .int (M.1 4), .int (M.1 5), .int (M.1 6), .long M.2.1])), (a 1, .inl (eJ E, 68, .inr (.inl M.2.2.1))), (a 2, .inl (eJ E, 68, .inr (.inl M.2.2.2.1))), (a 3, .inl (eJ E, 340, .inr (.inl M.2.2.2.2.1))), (a 4, .inl (eI E, 3, .inl M.2.2.2.2.2.1)), (a 5, .inl (eI E, 120, .inl M.2.2.2.2.2.2.1)), (a 6, .inl (eI E, 60, .inl M.2.2.2.2.2.2.2.1)), (a 7, .inl (eI E, 120, .inl M.2.2.2.2.2.2.2.2))] → va_S A s.heap H locs → lv_has ls 17 [(0, .ref (a 0)), (1, .long ra), (3, .long rb), (5, .long x1), (7, .long x2), (9, .long x5), (11, .long (M.2.2.1 3)), (13, .long x7), (15, .long x10)] → W p l e rX6_learnsCapacity s m args below meth c H locs 0 0 Q (F0 m 173 ls [.long x12]) := by
          intro H locs ls x12 ex12 hP hD hS hl
          refine lv_lstore (lv' := [(11, .long x12), (0, .ref (a 0)), (1, .long ra), (3, .long rb), (5, .long x1), (7, .long x2), (9, .long x5), (13, .long x7), (15, .long x10)]) (pc := 173) hx hb dX6_learnsCapacity_173 hl (by decide) rfl (fun ls hl => ?_)
          subst ex12
          subst ex10
          exact J_10 _ _ _ _ ((if_neg c_8).trans (if_neg c_9)) hP hD hS (lv_sub hl [1, 2, 3, 4, 5, 6, 0, 7] rfl)
        refine gl_ge (tgt := 171) (pc := 162) hx hb dX6_learnsCapacity_162 dX6_learnsCapacity_163 rfl (fun c_11 => ?_) (fun c_11 => ?_)
        · refine lv_lload (pc := 171) hx hb dX6_learnsCapacity_171 (lv_at hl 8 rfl) ?_
          exact J_13 _ _ _ _ (if_pos c_11) hP hD hS (lv_sub hl [2, 3, 4, 5, 6, 7, 8, 1, 0] rfl)
        · refine lv_lload (pc := 166) hx hb dX6_learnsCapacity_166 (lv_at hl 0 rfl) ?_
          refine lv_goto (tgt := 173) (pc := 168) hx hb dX6_learnsCapacity_168 (by decide) ?_
          exact J_13 _ _ _ _ (if_neg c_11) hP hD hS (lv_sub hl [2, 3, 4, 5, 6, 7, 8, 1, 0] rfl)
  refine gl_le (tgt := 117) (pc := 78) hx hb dX6_learnsCapacity_78 dX6_learnsCapacity_79 rfl (fun c_4 => ?_) (fun c_4 => ?_)
  · exact J_6 _ _ _ _ (if_pos c_4) hP hD hS (lv_sub hl [5, 6, 7, 4, 3, 2, 1, 0] rfl)
  · refine lv_lload (pc := 82) hx hb dX6_learnsCapacity_82 (lv_at hl 0 rfl) ?_
    refine lv_lconst (v := 0) (pc := 84) hx hb dX6_learnsCapacity_84 rfl ?_
    refine gl_le (tgt := 117) (pc := 85) hx hb dX6_learnsCapacity_85 dX6_learnsCapacity_86 rfl (fun c_5 => ?_) (fun c_5 => ?_)
    · exact J_6 _ _ _ _ ((if_neg c_4).trans (if_pos c_5)) hP hD hS (lv_sub hl [5, 6, 7, 4, 3, 2, 1, 0] rfl)
    · refine lv_ldc2 (v := (1000)) (pc := 89) hx hb hown (hts _ mm_X6_learnsCapacity_2) dX6_learnsCapacity_89 ?_
      refine lv_lload (pc := 92) hx hb dX6_learnsCapacity_92 (lv_at hl 4 rfl) ?_
      refine lv_lmul (pc := 94) hx hb dX6_learnsCapacity_94 ?_
      refine lv_lload (pc := 95) hx hb dX6_learnsCapacity_95 (lv_at hl 0 rfl) ?_
      refine lv_ldiv (pc := 97) hx hb dX6_learnsCapacity_97 (by subst_vars; exact nz_ps c_5) ?_
      refine g_topl (fun x6 ex6 => ?_)
      refine lv_lstore (lv' := [(15, .long x6), (13, .long x3), (11, .long (M.2.2.1 3)), (9, .long (M.2.2.1 2)), (7, .long x2), (5, .long x1), (0, .ref (a 0)), (1, .long ra), (3, .long rb)]) (pc := 98) hx hb dX6_learnsCapacity_98 hl (by decide) rfl (fun ls hl => ?_)
      refine lv_lload (pc := 100) hx hb dX6_learnsCapacity_100 (lv_at hl 0 rfl) ?_
      refine lv_lload (pc := 102) hx hb dX6_learnsCapacity_102 (lv_at hl 3 rfl) ?_
      have J_9 : ∀ (H : Heap) (locs : List Loc) (ls : Array Slot) (x8 : Int64), (if x6 ≤ (M.2.2.1 2) then (M.2.2.1 2) else x6) = x8 → va_P E.1 vwCl [(a 0, .inr (6, [.ref (a 1), .ref (a 2), .ref (a 3), .int (M.1 0), .ref (a 4), .ref (a 5), .int (M.1 1), .int (M.1 2), .int (M.1 3), .ref (a 6), .ref (a 7), .int (M.1 4), .int (M.1 5), .int (M.1 6), .long M.2.1])), (a 1, .inl (eJ E, 68, .inr (.inl M.2.2.1))), (a 2, .inl (eJ E, 68, .inr (.inl M.2.2.2.1))), (a 3, .inl (eJ E, 340, .inr (.inl M.2.2.2.2.1))), (a 4, .inl (eI E, 3, .inl M.2.2.2.2.2.1)), (a 5, .inl (eI E, 120, .inl M.2.2.2.2.2.2.1)), (a 6, .inl (eI E, 60, .inl M.2.2.2.2.2.2.2.1)), (a 7, .inl (eI E, 120, .inl M.2.2.2.2.2.2.2.2))] H → va_D A [(a 0, .inr (6, [.ref (a 1), .ref (a 2), .ref (a 3), .int (M.1 0), .ref (a 4), .ref (a 5), .int (M.1 1), .int (M.1 2), .int (M.1 3), .ref (a 6), .ref (a 7), .int (M.1 4), .int (M.1 5), .int (M.1 6), .long M.2.1])), (a 1, .inl (eJ E, 68, .inr (.inl M.2.2.1))), (a 2, .inl (eJ E, 68, .inr (.inl M.2.2.2.1))), (a 3, .inl (eJ E, 340, .inr (.inl M.2.2.2.2.1))), (a 4, .inl (eI E, 3, .inl M.2.2.2.2.2.1)), (a 5, .inl (eI E, 120, .inl M.2.2.2.2.2.2.1)), (a 6, .inl (eI E, 60, .inl M.2.2.2.2.2.2.2.1)), (a 7, .inl (eI E, 120, .inl M.2.2.2.2.2.2.2.2))] → va_S A s.heap H locs → lv_has ls 17 [(0, .ref (a 0)), (1, .long ra), (3, .long rb), (5, .long x1), (7, .long x2), (9, .long (M.2.2.1 2)), (11, .long (M.2.2.1 3)), (13, .long x3), (15, .long x6)] → W p l e rX6_learnsCapacity s m args below meth c H locs 0 0 Q (F0 m 115 ls [.long x8]) := by
        intro H locs ls x8 ex8 hP hD hS hl
        refine lv_lstore (lv' := [(9, .long x8), (0, .ref (a 0)), (1, .long ra), (3, .long rb), (5, .long x1), (7, .long x2), (11, .long (M.2.2.1 3)), (13, .long x3), (15, .long x6)]) (pc := 115) hx hb dX6_learnsCapacity_115 hl (by decide) rfl (fun ls hl => ?_)
        subst ex8
        subst ex6
        exact J_6 _ _ _ _ ((if_neg c_4).trans (if_neg c_5)) hP hD hS (lv_sub hl [1, 2, 3, 4, 5, 0, 6, 7] rfl)
      refine gl_le (tgt := 113) (pc := 104) hx hb dX6_learnsCapacity_104 dX6_learnsCapacity_105 rfl (fun c_7 => ?_) (fun c_7 => ?_)
      · refine lv_lload (pc := 113) hx hb dX6_learnsCapacity_113 (lv_at hl 3 rfl) ?_
        exact J_9 _ _ _ _ (if_pos c_7) hP hD hS (lv_sub hl [6, 7, 8, 5, 4, 3, 2, 1, 0] rfl)
      · refine lv_lload (pc := 108) hx hb dX6_learnsCapacity_108 (lv_at hl 0 rfl) ?_
        refine lv_goto (tgt := 115) (pc := 110) hx hb dX6_learnsCapacity_110 (by decide) ?_
        exact J_9 _ _ _ _ (if_neg c_7) hP hD hS (lv_sub hl [6, 7, 8, 5, 4, 3, 2, 1, 0] rfl)

noncomputable def fX6_putRest (M : Mdl) (v : Int32) : Int32 × (Mdl) :=
  let r1 : Int32 := fX6_in v.toInt64 0 9999
  if r1 = 0 then
    ((-10000002), M)
  else
    let r3 : Mdl := fX6_turns M v
    if (r3.1 2) = (-10000001) then
      ((-10000003), r3)
    else
      if (r3.1 3) = (-10000001) then
        ((-10000003), r3)
      else
        let x7 : Mdl := (if (r3.2.2.1 8) ≤ 0 then r3 else (let r7 : Mdl := fX6_learnsCapacity r3 ((r3.1 2).toInt64) ((r3.1 3).toInt64); r7))
        let x9 : Int64 := (((x7.1 2).toInt64) * (x7.2.2.1 2)) / 1000
        let x10 : Int64 := ((((x7.1 3).toInt64) * (x7.2.2.1 3)) + 999) / 1000
        let x12 : Int64 := (if x9 ≤ (x7.2.2.1 0) then (x7.2.2.1 0) else x9)
        let x15 : Int64 := (if (x7.2.2.1 1) ≤ x10 then (x7.2.2.1 1) else x10)
        let x18 : Nat → Int64 := (if x12 ≤ x15 then (vp_updL (vp_updL x7.2.2.1 0 x12) 1 x15) else (let x18 : Int64 := (x7.2.2.1 7) + 1; (vp_updL x7.2.2.1 7 x18)))
        let x21 : Int64 := (if (x18 1) ≤ (x18 3) then (x18 1) else (x18 3))
        let x24 : Int64 := (if (x18 0) ≤ (x18 3) then (x18 0) else (x18 3))
        let x26 : Int64 := (x18 8) + 1
        let x27 : Int64 := (x7.1 2).toInt64
        let x28 : Int64 := (x7.1 3).toInt64
        let x30 : Int64 := (if x21 = 0 then 0 else (x18 4))
        ((x21 - x24).toInt32, (x7.1, x7.2.1, (vp_updL (vp_updL (vp_updL (vp_updL (vp_updL (vp_updL (vp_updL (vp_updL x18 1 x21) 0 x24) 5 0) 6 0) 8 x26) 9 x27) 10 x28) 4 x30), x7.2.2.2.1, x7.2.2.2.2.1, x7.2.2.2.2.2.1, x7.2.2.2.2.2.2.1, x7.2.2.2.2.2.2.2.1, x7.2.2.2.2.2.2.2.2))
abbrev rX6_putRest : Room := { frames := 2, cells := 0, slots := 0, locals := 48 }
theorem mm_X6_putRest_1 : Cond.constantLong RX6 73 (9999) ∈ wsX6_putRest := List.mem_of_getElem? (i := 1) rfl
theorem mm_X6_putRest_3 : Cond.fieldLink RX6 58 "GaugeBoundsModel" "least" "I" ∈ wsX6_putRest := List.mem_of_getElem? (i := 3) rfl
theorem mm_X6_putRest_4 : Cond.constant RX6 57 (-10000001) ∈ wsX6_putRest := List.mem_of_getElem? (i := 4) rfl
theorem mm_X6_putRest_6 : Cond.constant RX6 49 (-10000003) ∈ wsX6_putRest := List.mem_of_getElem? (i := 6) rfl
theorem mm_X6_putRest_5 : Cond.fieldLink RX6 61 "GaugeBoundsModel" "greatest" "I" ∈ wsX6_putRest := List.mem_of_getElem? (i := 5) rfl
theorem mm_X6_putRest_7 : Cond.fieldLink RX6 7 "GaugeBoundsModel" "now" "[J" ∈ wsX6_putRest := List.mem_of_getElem? (i := 7) rfl
theorem mm_X6_putRest_8 : Cond.constantLong RX6 32 (1000) ∈ wsX6_putRest := List.mem_of_getElem? (i := 8) rfl
theorem mm_X6_putRest_9 : Cond.constantLong RX6 83 (999) ∈ wsX6_putRest := List.mem_of_getElem? (i := 9) rfl
theorem mm_X6_putRest_2 : Cond.constant RX6 44 (-10000002) ∈ wsX6_putRest := List.mem_of_getElem? (i := 2) rfl
theorem ii_X6_putRest_X6 : ∀ w ∈ wsX60, w ∈ wsX6_putRest := fun _ h => List.mem_cons_of_mem _ (List.mem_append_right _ (h))
theorem qvX6_putRest : yX6_putRest.cls = RX6 ∧ yX6_putRest.cls ≠ "java/lang/invoke/MethodHandle" ∧ yX6_putRest.cls ≠ "java/lang/invoke/VarHandle" ∧ (parseMethodDescriptor yX6_putRest.desc).map (fun d => d.parameters.length) = some 1 := by decide +kernel
set_option maxHeartbeats 4000000 in
set_option maxRecDepth 100000 in
theorem kX6_putRest (l : Launch) (E : gEnv) (a : Nat → Nat) (M : Mdl) (v : Int32) : gMi l E yX6_putRest wsX6_putRest rX6_putRest [.ref (a 0), .int v] (wM E a M) (fX6_putRest M v).1 (wM E a ((fX6_putRest M v).2)) := by
  refine gMi_of (cc := cX6_putRest) (maxL := 6) (ret := (some .int)) (by decide) rfl rfl (Nat.le_of_ble_eq_true rfl) ?_
  intro p e s m args below meth c A Q ls hB hQ
  obtain ⟨hx, hb, hml, hown, hts, hK, hP, hD, hA, hS, hl⟩ := hB
  have hown : s.vm.findClass RX6 = some m.cls := hown
  have hP : va_P E.1 vwCl [(a 0, .inr (6, [.ref (a 1), .ref (a 2), .ref (a 3), .int (M.1 0), .ref (a 4), .ref (a 5), .int (M.1 1), .int (M.1 2), .int (M.1 3), .ref (a 6), .ref (a 7), .int (M.1 4), .int (M.1 5), .int (M.1 6), .long M.2.1])), (a 1, .inl (eJ E, 68, .inr (.inl M.2.2.1))), (a 2, .inl (eJ E, 68, .inr (.inl M.2.2.2.1))), (a 3, .inl (eJ E, 340, .inr (.inl M.2.2.2.2.1))), (a 4, .inl (eI E, 3, .inl M.2.2.2.2.2.1)), (a 5, .inl (eI E, 120, .inl M.2.2.2.2.2.2.1)), (a 6, .inl (eI E, 60, .inl M.2.2.2.2.2.2.2.1)), (a 7, .inl (eI E, 120, .inl M.2.2.2.2.2.2.2.2))] s.heap := hP
  have hD : va_D A [(a 0, .inr (6, [.ref (a 1), .ref (a 2), .ref (a 3), .int (M.1 0), .ref (a 4), .ref (a 5), .int (M.1 1), .int (M.1 2), .int (M.1 3), .ref (a 6), .ref (a 7), .int (M.1 4), .int (M.1 5), .int (M.1 6), .long M.2.1])), (a 1, .inl (eJ E, 68, .inr (.inl M.2.2.1))), (a 2, .inl (eJ E, 68, .inr (.inl M.2.2.2.1))), (a 3, .inl (eJ E, 340, .inr (.inl M.2.2.2.2.1))), (a 4, .inl (eI E, 3, .inl M.2.2.2.2.2.1)), (a 5, .inl (eI E, 120, .inl M.2.2.2.2.2.2.1)), (a 6, .inl (eI E, 60, .inl M.2.2.2.2.2.2.2.1)), (a 7, .inl (eI E, 120, .inl M.2.2.2.2.2.2.2.2))] := hD
  have hl : lv_has ls 6 [(0, .ref (a 0)), (1, .int v)] := hl
  refine lv_iload_n (pc := 0) hx hb dX6_putRest_0 rfl (lv_at hl 1 rfl) ?_
  refine lv_i2l (v := v.toInt64) (pc := 1) hx hb dX6_putRest_1 rfl ?_
  refine lv_lconst (v := 0) (pc := 2) hx hb dX6_putRest_2 rfl ?_
  refine lv_ldc2 (v := (9999)) (pc := 3) hx hb hown (hts _ mm_X6_putRest_1) dX6_putRest_3 ?_
  obtain ⟨r1, er1⟩ : ∃ z : Int32, fX6_in v.toInt64 0 9999 = z := ⟨_, rfl⟩
  have hr1 := kX6_in l E v.toInt64 0 9999
  rw [er1] at hr1
  refine gcSi (pc := 6) (As := [.long v.toInt64, .long 0, .long 9999]) (rest := []) ⟨hx, hb, hml, hown, hts⟩ hr1 (cwS 3 hts gX6_putRest_X6_in rfl rfl rfl qsX6_in ⟨Nat.le_of_ble_eq_true rfl, Nat.le_of_ble_eq_true rfl⟩) hK hP hD hS hA rfl hl.1 rfl (Nat.le_of_ble_eq_true rfl) dX6_putRest_6 ⟨Nat.zero_le _, Nat.zero_le _⟩ (fun H locs hP hD hS => ?_)
  refine lv_if_ne (tgt := 15) (pc := 9) hx hb dX6_putRest_9 (by decide) (fun c_2 => ?_) (fun c_2 => ?_)
  · refine lv_aload_n (pc := 15) hx hb dX6_putRest_15 rfl (lv_at hl 0 rfl) ?_
    refine lv_iload_n (pc := 16) hx hb dX6_putRest_16 rfl (lv_at hl 1 rfl) ?_
    obtain ⟨r3, er3⟩ : ∃ z : Mdl, fX6_turns M v = z := ⟨_, rfl⟩
    have hr3 := kX6_turns l E a M v
    rw [er3] at hr3
    refine gcVv (pc := 17) (w1 := [(a 0, .inr (6, [.ref (a 1), .ref (a 2), .ref (a 3), .int (r3.1 0), .ref (a 4), .ref (a 5), .int (r3.1 1), .int (r3.1 2), .int (r3.1 3), .ref (a 6), .ref (a 7), .int (r3.1 4), .int (r3.1 5), .int (r3.1 6), .long r3.2.1])), (a 1, .inl (eJ E, 68, .inr (.inl r3.2.2.1))), (a 2, .inl (eJ E, 68, .inr (.inl r3.2.2.2.1))), (a 3, .inl (eJ E, 340, .inr (.inl r3.2.2.2.2.1))), (a 4, .inl (eI E, 3, .inl r3.2.2.2.2.2.1)), (a 5, .inl (eI E, 120, .inl r3.2.2.2.2.2.2.1)), (a 6, .inl (eI E, 60, .inl r3.2.2.2.2.2.2.2.1)), (a 7, .inl (eI E, 120, .inl r3.2.2.2.2.2.2.2.2))]) (pre := []) (post := []) (As := [.int v]) (rest := []) (q0 := 0) ⟨hx, hb, hml, hown, hts⟩ hr3 (cwV 1 hts gX6_putRest_X6_turns rfl rfl rfl qvX6_turns ⟨Nat.le_of_ble_eq_true rfl, Nat.le_of_ble_eq_true rfl⟩) hK hP hD hS hA rfl rfl rfl rfl rfl hl.1 rfl (Nat.le_of_ble_eq_true rfl) dX6_putRest_17 ⟨Nat.zero_le _, Nat.zero_le _⟩ (fun H locs hP hD hS => ?_)
    refine lv_aload_n (pc := 20) hx hb dX6_putRest_20 rfl (lv_at hl 0 rfl) ?_
    refine g_get (v := .int (r3.1 2)) (pc := 21) hx hb hts ii_X6_putRest_X6 hown hK.1 hP 0 rfl rfl 7 (by decide) ⟨rfl, rfl, rfl⟩ mm_X6_putRest_3 rfl dX6_putRest_21 ?_
    refine lv_ldc (v := (-10000001)) (pc := 24) hx hb hown (hts _ mm_X6_putRest_4) dX6_putRest_24 ?_
    refine lv_icmp_eq (tgt := 38) (pc := 26) hx hb dX6_putRest_26 (by decide) (fun c_4 => ?_) (fun c_4 => ?_)
    · refine lv_ldc (v := (-10000003)) (pc := 38) hx hb hown (hts _ mm_X6_putRest_6) dX6_putRest_38 ?_
      subst er3
      subst er1
      have hfn : fX6_putRest M v = _ := (if_neg c_2).trans (if_pos c_4)
      rw [hfn] at hQ
      exact hQ _ _ _ _ _ rfl hP hD hS dX6_putRest_40
    · refine lv_aload_n (pc := 29) hx hb dX6_putRest_29 rfl (lv_at hl 0 rfl) ?_
      refine g_get (v := .int (r3.1 3)) (pc := 30) hx hb hts ii_X6_putRest_X6 hown hK.1 hP 0 rfl rfl 8 (by decide) ⟨rfl, rfl, rfl⟩ mm_X6_putRest_5 rfl dX6_putRest_30 ?_
      refine lv_ldc (v := (-10000001)) (pc := 33) hx hb hown (hts _ mm_X6_putRest_4) dX6_putRest_33 ?_
      refine lv_icmp_ne (tgt := 41) (pc := 35) hx hb dX6_putRest_35 (by decide) (fun c_5 => ?_) (fun c_5 => ?_)
      · refine lv_aload_n (pc := 41) hx hb dX6_putRest_41 rfl (lv_at hl 0 rfl) ?_
        refine g_get (v := .ref (a 1)) (pc := 42) hx hb hts ii_X6_putRest_X6 hown hK.1 hP 0 rfl rfl 0 (by decide) ⟨rfl, rfl, rfl⟩ mm_X6_putRest_7 rfl dX6_putRest_42 ?_
        refine lv_bipush (v := 8) (pc := 45) hx hb dX6_putRest_45 rfl ?_
        refine g_lald (j := 8) (v := (r3.2.2.1 8)) (pc := 47) hx hb hK.1 hP 1 1 rfl rfl (g_in (by decide +kernel)) rfl rfl dX6_putRest_47 ?_
        refine lv_lconst (v := 0) (pc := 48) hx hb dX6_putRest_48 rfl ?_
        have J_8 : ∀ (H : Heap) (locs : List Loc) (ls : Array Slot) (x7 : Mdl), (if (r3.2.2.1 8) ≤ 0 then r3 else (let r7 : Mdl := fX6_learnsCapacity r3 ((r3.1 2).toInt64) ((r3.1 3).toInt64); r7)) = x7 → va_P E.1 vwCl [(a 0, .inr (6, [.ref (a 1), .ref (a 2), .ref (a 3), .int (x7.1 0), .ref (a 4), .ref (a 5), .int (x7.1 1), .int (x7.1 2), .int (x7.1 3), .ref (a 6), .ref (a 7), .int (x7.1 4), .int (x7.1 5), .int (x7.1 6), .long x7.2.1])), (a 1, .inl (eJ E, 68, .inr (.inl x7.2.2.1))), (a 2, .inl (eJ E, 68, .inr (.inl x7.2.2.2.1))), (a 3, .inl (eJ E, 340, .inr (.inl x7.2.2.2.2.1))), (a 4, .inl (eI E, 3, .inl x7.2.2.2.2.2.1)), (a 5, .inl (eI E, 120, .inl x7.2.2.2.2.2.2.1)), (a 6, .inl (eI E, 60, .inl x7.2.2.2.2.2.2.2.1)), (a 7, .inl (eI E, 120, .inl x7.2.2.2.2.2.2.2.2))] H → va_D A [(a 0, .inr (6, [.ref (a 1), .ref (a 2), .ref (a 3), .int (x7.1 0), .ref (a 4), .ref (a 5), .int (x7.1 1), .int (x7.1 2), .int (x7.1 3), .ref (a 6), .ref (a 7), .int (x7.1 4), .int (x7.1 5), .int (x7.1 6), .long x7.2.1])), (a 1, .inl (eJ E, 68, .inr (.inl x7.2.2.1))), (a 2, .inl (eJ E, 68, .inr (.inl x7.2.2.2.1))), (a 3, .inl (eJ E, 340, .inr (.inl x7.2.2.2.2.1))), (a 4, .inl (eI E, 3, .inl x7.2.2.2.2.2.1)), (a 5, .inl (eI E, 120, .inl x7.2.2.2.2.2.2.1)), (a 6, .inl (eI E, 60, .inl x7.2.2.2.2.2.2.2.1)), (a 7, .inl (eI E, 120, .inl x7.2.2.2.2.2.2.2.2))] → va_S A s.heap H locs → lv_has ls 6 [(0, .ref (a 0)), (1, .int v)] → W p l e rX6_putRest s m args below meth c H locs 0 0 Q (F0 m 67 ls []) := by
          intro H locs ls x7 ex7 hP hD hS hl
          refine lv_aload_n (pc := 67) hx hb dX6_putRest_67 rfl (lv_at hl 0 rfl) ?_
          refine g_get (v := .int (x7.1 2)) (pc := 68) hx hb hts ii_X6_putRest_X6 hown hK.1 hP 0 rfl rfl 7 (by decide) ⟨rfl, rfl, rfl⟩ mm_X6_putRest_3 rfl dX6_putRest_68 ?_
          refine lv_i2l (v := (x7.1 2).toInt64) (pc := 71) hx hb dX6_putRest_71 rfl ?_
          refine lv_aload_n (pc := 72) hx hb dX6_putRest_72 rfl (lv_at hl 0 rfl) ?_
          refine g_get (v := .ref (a 1)) (pc := 73) hx hb hts ii_X6_putRest_X6 hown hK.1 hP 0 rfl rfl 0 (by decide) ⟨rfl, rfl, rfl⟩ mm_X6_putRest_7 rfl dX6_putRest_73 ?_
          refine lv_iconst (v := 2) (pc := 76) hx hb dX6_putRest_76 rfl ?_
          refine g_lald (j := 2) (v := (x7.2.2.1 2)) (pc := 77) hx hb hK.1 hP 1 1 rfl rfl (g_in (by decide +kernel)) rfl rfl dX6_putRest_77 ?_
          refine lv_lmul (pc := 78) hx hb dX6_putRest_78 ?_
          refine lv_ldc2 (v := (1000)) (pc := 79) hx hb hown (hts _ mm_X6_putRest_8) dX6_putRest_79 ?_
          refine lv_ldiv (pc := 82) hx hb dX6_putRest_82 (by decide) ?_
          refine g_topl (fun x9 ex9 => ?_)
          refine lv_lstore_n (lv' := [(2, .long x9), (0, .ref (a 0)), (1, .int v)]) (pc := 83) hx hb dX6_putRest_83 rfl hl (by decide) rfl (fun ls hl => ?_)
          refine lv_aload_n (pc := 84) hx hb dX6_putRest_84 rfl (lv_at hl 1 rfl) ?_
          refine g_get (v := .int (x7.1 3)) (pc := 85) hx hb hts ii_X6_putRest_X6 hown hK.1 hP 0 rfl rfl 8 (by decide) ⟨rfl, rfl, rfl⟩ mm_X6_putRest_5 rfl dX6_putRest_85 ?_
          refine lv_i2l (v := (x7.1 3).toInt64) (pc := 88) hx hb dX6_putRest_88 rfl ?_
          refine lv_aload_n (pc := 89) hx hb dX6_putRest_89 rfl (lv_at hl 1 rfl) ?_
          refine g_get (v := .ref (a 1)) (pc := 90) hx hb hts ii_X6_putRest_X6 hown hK.1 hP 0 rfl rfl 0 (by decide) ⟨rfl, rfl, rfl⟩ mm_X6_putRest_7 rfl dX6_putRest_90 ?_
          refine lv_iconst (v := 3) (pc := 93) hx hb dX6_putRest_93 rfl ?_
          refine g_lald (j := 3) (v := (x7.2.2.1 3)) (pc := 94) hx hb hK.1 hP 1 1 rfl rfl (g_in (by decide +kernel)) rfl rfl dX6_putRest_94 ?_
          refine lv_lmul (pc := 95) hx hb dX6_putRest_95 ?_
          refine lv_ldc2 (v := (999)) (pc := 96) hx hb hown (hts _ mm_X6_putRest_9) dX6_putRest_96 ?_
          refine lv_ladd (pc := 99) hx hb dX6_putRest_99 ?_
          refine lv_ldc2 (v := (1000)) (pc := 100) hx hb hown (hts _ mm_X6_putRest_8) dX6_putRest_100 ?_
          refine lv_ldiv (pc := 103) hx hb dX6_putRest_103 (by decide) ?_
          refine g_topl (fun x10 ex10 => ?_)
          refine lv_lstore (lv' := [(4, .long x10), (2, .long x9), (0, .ref (a 0)), (1, .int v)]) (pc := 104) hx hb dX6_putRest_104 hl (by decide) rfl (fun ls hl => ?_)
          refine lv_lload_n (pc := 106) hx hb dX6_putRest_106 rfl (lv_at hl 1 rfl) ?_
          refine lv_aload_n (pc := 107) hx hb dX6_putRest_107 rfl (lv_at hl 2 rfl) ?_
          refine g_get (v := .ref (a 1)) (pc := 108) hx hb hts ii_X6_putRest_X6 hown hK.1 hP 0 rfl rfl 0 (by decide) ⟨rfl, rfl, rfl⟩ mm_X6_putRest_7 rfl dX6_putRest_108 ?_
          refine lv_iconst (v := 0) (pc := 111) hx hb dX6_putRest_111 rfl ?_
          refine g_lald (j := 0) (v := (x7.2.2.1 0)) (pc := 112) hx hb hK.1 hP 1 1 rfl rfl (g_in (by decide +kernel)) rfl rfl dX6_putRest_112 ?_
          have J_13 : ∀ (H : Heap) (locs : List Loc) (ls : Array Slot) (x12 : Int64), (if x9 ≤ (x7.2.2.1 0) then (x7.2.2.1 0) else x9) = x12 → va_P E.1 vwCl [(a 0, .inr (6, [.ref (a 1), .ref (a 2), .ref (a 3), .int (x7.1 0), .ref (a 4), .ref (a 5), .int (x7.1 1), .int (x7.1 2), .int (x7.1 3), .ref (a 6), .ref (a 7), .int (x7.1 4), .int (x7.1 5), .int (x7.1 6), .long x7.2.1])), (a 1, .inl (eJ E, 68, .inr (.inl x7.2.2.1))), (a 2, .inl (eJ E, 68, .inr (.inl x7.2.2.2.1))), (a 3, .inl (eJ E, 340, .inr (.inl x7.2.2.2.2.1))), (a 4, .inl (eI E, 3, .inl x7.2.2.2.2.2.1)), (a 5, .inl (eI E, 120, .inl x7.2.2.2.2.2.2.1)), (a 6, .inl (eI E, 60, .inl x7.2.2.2.2.2.2.2.1)), (a 7, .inl (eI E, 120, .inl x7.2.2.2.2.2.2.2.2))] H → va_D A [(a 0, .inr (6, [.ref (a 1), .ref (a 2), .ref (a 3), .int (x7.1 0), .ref (a 4), .ref (a 5), .int (x7.1 1), .int (x7.1 2), .int (x7.1 3), .ref (a 6), .ref (a 7), .int (x7.1 4), .int (x7.1 5), .int (x7.1 6), .long x7.2.1])), (a 1, .inl (eJ E, 68, .inr (.inl x7.2.2.1))), (a 2, .inl (eJ E, 68, .inr (.inl x7.2.2.2.1))), (a 3, .inl (eJ E, 340, .inr (.inl x7.2.2.2.2.1))), (a 4, .inl (eI E, 3, .inl x7.2.2.2.2.2.1)), (a 5, .inl (eI E, 120, .inl x7.2.2.2.2.2.2.1)), (a 6, .inl (eI E, 60, .inl x7.2.2.2.2.2.2.2.1)), (a 7, .inl (eI E, 120, .inl x7.2.2.2.2.2.2.2.2))] → va_S A s.heap H locs → lv_has ls 6 [(0, .ref (a 0)), (1, .int v), (2, .long x9), (4, .long x10)] → W p l e rX6_putRest s m args below meth c H locs 0 0 Q (F0 m 127 ls [.long x12]) := by
            intro H locs ls x12 ex12 hP hD hS hl
            refine lv_lstore_n (lv' := [(2, .long x12), (0, .ref (a 0)), (1, .int v), (4, .long x10)]) (pc := 127) hx hb dX6_putRest_127 rfl hl (by decide) rfl (fun ls hl => ?_)
            refine lv_lload (pc := 128) hx hb dX6_putRest_128 (lv_at hl 3 rfl) ?_
            refine lv_aload_n (pc := 130) hx hb dX6_putRest_130 rfl (lv_at hl 1 rfl) ?_
            refine g_get (v := .ref (a 1)) (pc := 131) hx hb hts ii_X6_putRest_X6 hown hK.1 hP 0 rfl rfl 0 (by decide) ⟨rfl, rfl, rfl⟩ mm_X6_putRest_7 rfl dX6_putRest_131 ?_
            refine lv_iconst (v := 1) (pc := 134) hx hb dX6_putRest_134 rfl ?_
            refine g_lald (j := 1) (v := (x7.2.2.1 1)) (pc := 135) hx hb hK.1 hP 1 1 rfl rfl (g_in (by decide +kernel)) rfl rfl dX6_putRest_135 ?_
            have J_16 : ∀ (H : Heap) (locs : List Loc) (ls : Array Slot) (x15 : Int64), (if (x7.2.2.1 1) ≤ x10 then (x7.2.2.1 1) else x10) = x15 → va_P E.1 vwCl [(a 0, .inr (6, [.ref (a 1), .ref (a 2), .ref (a 3), .int (x7.1 0), .ref (a 4), .ref (a 5), .int (x7.1 1), .int (x7.1 2), .int (x7.1 3), .ref (a 6), .ref (a 7), .int (x7.1 4), .int (x7.1 5), .int (x7.1 6), .long x7.2.1])), (a 1, .inl (eJ E, 68, .inr (.inl x7.2.2.1))), (a 2, .inl (eJ E, 68, .inr (.inl x7.2.2.2.1))), (a 3, .inl (eJ E, 340, .inr (.inl x7.2.2.2.2.1))), (a 4, .inl (eI E, 3, .inl x7.2.2.2.2.2.1)), (a 5, .inl (eI E, 120, .inl x7.2.2.2.2.2.2.1)), (a 6, .inl (eI E, 60, .inl x7.2.2.2.2.2.2.2.1)), (a 7, .inl (eI E, 120, .inl x7.2.2.2.2.2.2.2.2))] H → va_D A [(a 0, .inr (6, [.ref (a 1), .ref (a 2), .ref (a 3), .int (x7.1 0), .ref (a 4), .ref (a 5), .int (x7.1 1), .int (x7.1 2), .int (x7.1 3), .ref (a 6), .ref (a 7), .int (x7.1 4), .int (x7.1 5), .int (x7.1 6), .long x7.2.1])), (a 1, .inl (eJ E, 68, .inr (.inl x7.2.2.1))), (a 2, .inl (eJ E, 68, .inr (.inl x7.2.2.2.1))), (a 3, .inl (eJ E, 340, .inr (.inl x7.2.2.2.2.1))), (a 4, .inl (eI E, 3, .inl x7.2.2.2.2.2.1)), (a 5, .inl (eI E, 120, .inl x7.2.2.2.2.2.2.1)), (a 6, .inl (eI E, 60, .inl x7.2.2.2.2.2.2.2.1)), (a 7, .inl (eI E, 120, .inl x7.2.2.2.2.2.2.2.2))] → va_S A s.heap H locs → lv_has ls 6 [(0, .ref (a 0)), (1, .int v), (2, .long x12), (4, .long x10)] → W p l e rX6_putRest s m args below meth c H locs 0 0 Q (F0 m 151 ls [.long x15]) := by
              intro H locs ls x15 ex15 hP hD hS hl
              refine lv_lstore (lv' := [(4, .long x15), (0, .ref (a 0)), (1, .int v), (2, .long x12)]) (pc := 151) hx hb dX6_putRest_151 hl (by decide) rfl (fun ls hl => ?_)
              refine lv_lload_n (pc := 153) hx hb dX6_putRest_153 rfl (lv_at hl 3 rfl) ?_
              refine lv_lload (pc := 154) hx hb dX6_putRest_154 (lv_at hl 0 rfl) ?_
              have J_19 : ∀ (H : Heap) (locs : List Loc) (ls : Array Slot) (x18 : Nat → Int64), (if x12 ≤ x15 then (vp_updL (vp_updL x7.2.2.1 0 x12) 1 x15) else (let x18 : Int64 := (x7.2.2.1 7) + 1; (vp_updL x7.2.2.1 7 x18))) = x18 → va_P E.1 vwCl [(a 0, .inr (6, [.ref (a 1), .ref (a 2), .ref (a 3), .int (x7.1 0), .ref (a 4), .ref (a 5), .int (x7.1 1), .int (x7.1 2), .int (x7.1 3), .ref (a 6), .ref (a 7), .int (x7.1 4), .int (x7.1 5), .int (x7.1 6), .long x7.2.1])), (a 1, .inl (eJ E, 68, .inr (.inl x18))), (a 2, .inl (eJ E, 68, .inr (.inl x7.2.2.2.1))), (a 3, .inl (eJ E, 340, .inr (.inl x7.2.2.2.2.1))), (a 4, .inl (eI E, 3, .inl x7.2.2.2.2.2.1)), (a 5, .inl (eI E, 120, .inl x7.2.2.2.2.2.2.1)), (a 6, .inl (eI E, 60, .inl x7.2.2.2.2.2.2.2.1)), (a 7, .inl (eI E, 120, .inl x7.2.2.2.2.2.2.2.2))] H → va_D A [(a 0, .inr (6, [.ref (a 1), .ref (a 2), .ref (a 3), .int (x7.1 0), .ref (a 4), .ref (a 5), .int (x7.1 1), .int (x7.1 2), .int (x7.1 3), .ref (a 6), .ref (a 7), .int (x7.1 4), .int (x7.1 5), .int (x7.1 6), .long x7.2.1])), (a 1, .inl (eJ E, 68, .inr (.inl x18))), (a 2, .inl (eJ E, 68, .inr (.inl x7.2.2.2.1))), (a 3, .inl (eJ E, 340, .inr (.inl x7.2.2.2.2.1))), (a 4, .inl (eI E, 3, .inl x7.2.2.2.2.2.1)), (a 5, .inl (eI E, 120, .inl x7.2.2.2.2.2.2.1)), (a 6, .inl (eI E, 60, .inl x7.2.2.2.2.2.2.2.1)), (a 7, .inl (eI E, 120, .inl x7.2.2.2.2.2.2.2.2))] → va_S A s.heap H locs → lv_has ls 6 [(0, .ref (a 0)), (1, .int v), (2, .long x12), (4, .long x15)] → W p l e rX6_putRest s m args below meth c H locs 0 0 Q (F0 m 189 ls []) := by
                intro H locs ls x18 ex18 hP hD hS hl
                refine lv_aload_n (pc := 189) hx hb dX6_putRest_189 rfl (lv_at hl 0 rfl) ?_
                refine g_get (v := .ref (a 1)) (pc := 190) hx hb hts ii_X6_putRest_X6 hown hK.1 hP 0 rfl rfl 0 (by decide) ⟨rfl, rfl, rfl⟩ mm_X6_putRest_7 rfl dX6_putRest_190 ?_
                refine lv_iconst (v := 1) (pc := 193) hx hb dX6_putRest_193 rfl ?_
                refine lv_aload_n (pc := 194) hx hb dX6_putRest_194 rfl (lv_at hl 0 rfl) ?_
                refine g_get (v := .ref (a 1)) (pc := 195) hx hb hts ii_X6_putRest_X6 hown hK.1 hP 0 rfl rfl 0 (by decide) ⟨rfl, rfl, rfl⟩ mm_X6_putRest_7 rfl dX6_putRest_195 ?_
                refine lv_iconst (v := 1) (pc := 198) hx hb dX6_putRest_198 rfl ?_
                refine g_lald (j := 1) (v := (x18 1)) (pc := 199) hx hb hK.1 hP 1 1 rfl rfl (g_in (by decide +kernel)) rfl rfl dX6_putRest_199 ?_
                refine lv_aload_n (pc := 200) hx hb dX6_putRest_200 rfl (lv_at hl 0 rfl) ?_
                refine g_get (v := .ref (a 1)) (pc := 201) hx hb hts ii_X6_putRest_X6 hown hK.1 hP 0 rfl rfl 0 (by decide) ⟨rfl, rfl, rfl⟩ mm_X6_putRest_7 rfl dX6_putRest_201 ?_
                refine lv_iconst (v := 3) (pc := 204) hx hb dX6_putRest_204 rfl ?_
                refine g_lald (j := 3) (v := (x18 3)) (pc := 205) hx hb hK.1 hP 1 1 rfl rfl (g_in (by decide +kernel)) rfl rfl dX6_putRest_205 ?_
                have J_22 : ∀ (H : Heap) (locs : List Loc) (ls : Array Slot) (x21 : Int64), (if (x18 1) ≤ (x18 3) then (x18 1) else (x18 3)) = x21 → va_P E.1 vwCl [(a 0, .inr (6, [.ref (a 1), .ref (a 2), .ref (a 3), .int (x7.1 0), .ref (a 4), .ref (a 5), .int (x7.1 1), .int (x7.1 2), .int (x7.1 3), .ref (a 6), .ref (a 7), .int (x7.1 4), .int (x7.1 5), .int (x7.1 6), .long x7.2.1])), (a 1, .inl (eJ E, 68, .inr (.inl x18))), (a 2, .inl (eJ E, 68, .inr (.inl x7.2.2.2.1))), (a 3, .inl (eJ E, 340, .inr (.inl x7.2.2.2.2.1))), (a 4, .inl (eI E, 3, .inl x7.2.2.2.2.2.1)), (a 5, .inl (eI E, 120, .inl x7.2.2.2.2.2.2.1)), (a 6, .inl (eI E, 60, .inl x7.2.2.2.2.2.2.2.1)), (a 7, .inl (eI E, 120, .inl x7.2.2.2.2.2.2.2.2))] H → va_D A [(a 0, .inr (6, [.ref (a 1), .ref (a 2), .ref (a 3), .int (x7.1 0), .ref (a 4), .ref (a 5), .int (x7.1 1), .int (x7.1 2), .int (x7.1 3), .ref (a 6), .ref (a 7), .int (x7.1 4), .int (x7.1 5), .int (x7.1 6), .long x7.2.1])), (a 1, .inl (eJ E, 68, .inr (.inl x18))), (a 2, .inl (eJ E, 68, .inr (.inl x7.2.2.2.1))), (a 3, .inl (eJ E, 340, .inr (.inl x7.2.2.2.2.1))), (a 4, .inl (eI E, 3, .inl x7.2.2.2.2.2.1)), (a 5, .inl (eI E, 120, .inl x7.2.2.2.2.2.2.1)), (a 6, .inl (eI E, 60, .inl x7.2.2.2.2.2.2.2.1)), (a 7, .inl (eI E, 120, .inl x7.2.2.2.2.2.2.2.2))] → va_S A s.heap H locs → lv_has ls 6 [(0, .ref (a 0)), (1, .int v), (2, .long x12), (4, .long x15)] → W p l e rX6_putRest s m args below meth c H locs 0 0 Q (F0 m 225 ls [.long x21, .int 1, .ref (a 1)]) := by
                  intro H locs ls x21 ex21 hP hD hS hl
                  refine g_last (j := 1) (w1 := [(a 0, .inr (6, [.ref (a 1), .ref (a 2), .ref (a 3), .int (x7.1 0), .ref (a 4), .ref (a 5), .int (x7.1 1), .int (x7.1 2), .int (x7.1 3), .ref (a 6), .ref (a 7), .int (x7.1 4), .int (x7.1 5), .int (x7.1 6), .long x7.2.1])), (a 1, .inl (eJ E, 68, .inr (.inl (vp_updL x18 1 x21)))), (a 2, .inl (eJ E, 68, .inr (.inl x7.2.2.2.1))), (a 3, .inl (eJ E, 340, .inr (.inl x7.2.2.2.2.1))), (a 4, .inl (eI E, 3, .inl x7.2.2.2.2.2.1)), (a 5, .inl (eI E, 120, .inl x7.2.2.2.2.2.2.1)), (a 6, .inl (eI E, 60, .inl x7.2.2.2.2.2.2.2.1)), (a 7, .inl (eI E, 120, .inl x7.2.2.2.2.2.2.2.2))]) (pc := 225) hx hb hK.1 hP hD hS 1 1 rfl rfl (g_in (by decide +kernel)) rfl rfl dX6_putRest_225 (fun H locs hP hD hS => ?_)
                  refine lv_aload_n (pc := 226) hx hb dX6_putRest_226 rfl (lv_at hl 0 rfl) ?_
                  refine g_get (v := .ref (a 1)) (pc := 227) hx hb hts ii_X6_putRest_X6 hown hK.1 hP 0 rfl rfl 0 (by decide) ⟨rfl, rfl, rfl⟩ mm_X6_putRest_7 rfl dX6_putRest_227 ?_
                  refine lv_iconst (v := 0) (pc := 230) hx hb dX6_putRest_230 rfl ?_
                  refine lv_aload_n (pc := 231) hx hb dX6_putRest_231 rfl (lv_at hl 0 rfl) ?_
                  refine g_get (v := .ref (a 1)) (pc := 232) hx hb hts ii_X6_putRest_X6 hown hK.1 hP 0 rfl rfl 0 (by decide) ⟨rfl, rfl, rfl⟩ mm_X6_putRest_7 rfl dX6_putRest_232 ?_
                  refine lv_iconst (v := 0) (pc := 235) hx hb dX6_putRest_235 rfl ?_
                  refine g_lald (j := 0) (v := (x18 0)) (pc := 236) hx hb hK.1 hP 1 1 rfl rfl (g_in (by decide +kernel)) rfl rfl dX6_putRest_236 ?_
                  refine lv_aload_n (pc := 237) hx hb dX6_putRest_237 rfl (lv_at hl 0 rfl) ?_
                  refine g_get (v := .ref (a 1)) (pc := 238) hx hb hts ii_X6_putRest_X6 hown hK.1 hP 0 rfl rfl 0 (by decide) ⟨rfl, rfl, rfl⟩ mm_X6_putRest_7 rfl dX6_putRest_238 ?_
                  refine lv_iconst (v := 3) (pc := 241) hx hb dX6_putRest_241 rfl ?_
                  refine g_lald (j := 3) (v := (x18 3)) (pc := 242) hx hb hK.1 hP 1 1 rfl rfl (g_in (by decide +kernel)) rfl rfl dX6_putRest_242 ?_
                  have J_25 : ∀ (H : Heap) (locs : List Loc) (ls : Array Slot) (x24 : Int64), (if (x18 0) ≤ (x18 3) then (x18 0) else (x18 3)) = x24 → va_P E.1 vwCl [(a 0, .inr (6, [.ref (a 1), .ref (a 2), .ref (a 3), .int (x7.1 0), .ref (a 4), .ref (a 5), .int (x7.1 1), .int (x7.1 2), .int (x7.1 3), .ref (a 6), .ref (a 7), .int (x7.1 4), .int (x7.1 5), .int (x7.1 6), .long x7.2.1])), (a 1, .inl (eJ E, 68, .inr (.inl (vp_updL x18 1 x21)))), (a 2, .inl (eJ E, 68, .inr (.inl x7.2.2.2.1))), (a 3, .inl (eJ E, 340, .inr (.inl x7.2.2.2.2.1))), (a 4, .inl (eI E, 3, .inl x7.2.2.2.2.2.1)), (a 5, .inl (eI E, 120, .inl x7.2.2.2.2.2.2.1)), (a 6, .inl (eI E, 60, .inl x7.2.2.2.2.2.2.2.1)), (a 7, .inl (eI E, 120, .inl x7.2.2.2.2.2.2.2.2))] H → va_D A [(a 0, .inr (6, [.ref (a 1), .ref (a 2), .ref (a 3), .int (x7.1 0), .ref (a 4), .ref (a 5), .int (x7.1 1), .int (x7.1 2), .int (x7.1 3), .ref (a 6), .ref (a 7), .int (x7.1 4), .int (x7.1 5), .int (x7.1 6), .long x7.2.1])), (a 1, .inl (eJ E, 68, .inr (.inl (vp_updL x18 1 x21)))), (a 2, .inl (eJ E, 68, .inr (.inl x7.2.2.2.1))), (a 3, .inl (eJ E, 340, .inr (.inl x7.2.2.2.2.1))), (a 4, .inl (eI E, 3, .inl x7.2.2.2.2.2.1)), (a 5, .inl (eI E, 120, .inl x7.2.2.2.2.2.2.1)), (a 6, .inl (eI E, 60, .inl x7.2.2.2.2.2.2.2.1)), (a 7, .inl (eI E, 120, .inl x7.2.2.2.2.2.2.2.2))] → va_S A s.heap H locs → lv_has ls 6 [(0, .ref (a 0)), (1, .int v), (2, .long x12), (4, .long x15)] → W p l e rX6_putRest s m args below meth c H locs 0 0 Q (F0 m 262 ls [.long x24, .int 0, .ref (a 1)]) := by
                    intro H locs ls x24 ex24 hP hD hS hl
                    refine g_last (j := 0) (w1 := [(a 0, .inr (6, [.ref (a 1), .ref (a 2), .ref (a 3), .int (x7.1 0), .ref (a 4), .ref (a 5), .int (x7.1 1), .int (x7.1 2), .int (x7.1 3), .ref (a 6), .ref (a 7), .int (x7.1 4), .int (x7.1 5), .int (x7.1 6), .long x7.2.1])), (a 1, .inl (eJ E, 68, .inr (.inl (vp_updL (vp_updL x18 1 x21) 0 x24)))), (a 2, .inl (eJ E, 68, .inr (.inl x7.2.2.2.1))), (a 3, .inl (eJ E, 340, .inr (.inl x7.2.2.2.2.1))), (a 4, .inl (eI E, 3, .inl x7.2.2.2.2.2.1)), (a 5, .inl (eI E, 120, .inl x7.2.2.2.2.2.2.1)), (a 6, .inl (eI E, 60, .inl x7.2.2.2.2.2.2.2.1)), (a 7, .inl (eI E, 120, .inl x7.2.2.2.2.2.2.2.2))]) (pc := 262) hx hb hK.1 hP hD hS 1 1 rfl rfl (g_in (by decide +kernel)) rfl rfl dX6_putRest_262 (fun H locs hP hD hS => ?_)
                    refine lv_aload_n (pc := 263) hx hb dX6_putRest_263 rfl (lv_at hl 0 rfl) ?_
                    refine g_get (v := .ref (a 1)) (pc := 264) hx hb hts ii_X6_putRest_X6 hown hK.1 hP 0 rfl rfl 0 (by decide) ⟨rfl, rfl, rfl⟩ mm_X6_putRest_7 rfl dX6_putRest_264 ?_
                    refine lv_iconst (v := 5) (pc := 267) hx hb dX6_putRest_267 rfl ?_
                    refine lv_lconst (v := 0) (pc := 268) hx hb dX6_putRest_268 rfl ?_
                    refine g_last (j := 5) (w1 := [(a 0, .inr (6, [.ref (a 1), .ref (a 2), .ref (a 3), .int (x7.1 0), .ref (a 4), .ref (a 5), .int (x7.1 1), .int (x7.1 2), .int (x7.1 3), .ref (a 6), .ref (a 7), .int (x7.1 4), .int (x7.1 5), .int (x7.1 6), .long x7.2.1])), (a 1, .inl (eJ E, 68, .inr (.inl (vp_updL (vp_updL (vp_updL x18 1 x21) 0 x24) 5 0)))), (a 2, .inl (eJ E, 68, .inr (.inl x7.2.2.2.1))), (a 3, .inl (eJ E, 340, .inr (.inl x7.2.2.2.2.1))), (a 4, .inl (eI E, 3, .inl x7.2.2.2.2.2.1)), (a 5, .inl (eI E, 120, .inl x7.2.2.2.2.2.2.1)), (a 6, .inl (eI E, 60, .inl x7.2.2.2.2.2.2.2.1)), (a 7, .inl (eI E, 120, .inl x7.2.2.2.2.2.2.2.2))]) (pc := 269) hx hb hK.1 hP hD hS 1 1 rfl rfl (g_in (by decide +kernel)) rfl rfl dX6_putRest_269 (fun H locs hP hD hS => ?_)
                    refine lv_aload_n (pc := 270) hx hb dX6_putRest_270 rfl (lv_at hl 0 rfl) ?_
                    refine g_get (v := .ref (a 1)) (pc := 271) hx hb hts ii_X6_putRest_X6 hown hK.1 hP 0 rfl rfl 0 (by decide) ⟨rfl, rfl, rfl⟩ mm_X6_putRest_7 rfl dX6_putRest_271 ?_
                    refine lv_bipush (v := 6) (pc := 274) hx hb dX6_putRest_274 rfl ?_
                    refine lv_lconst (v := 0) (pc := 276) hx hb dX6_putRest_276 rfl ?_
                    refine g_last (j := 6) (w1 := [(a 0, .inr (6, [.ref (a 1), .ref (a 2), .ref (a 3), .int (x7.1 0), .ref (a 4), .ref (a 5), .int (x7.1 1), .int (x7.1 2), .int (x7.1 3), .ref (a 6), .ref (a 7), .int (x7.1 4), .int (x7.1 5), .int (x7.1 6), .long x7.2.1])), (a 1, .inl (eJ E, 68, .inr (.inl (vp_updL (vp_updL (vp_updL (vp_updL x18 1 x21) 0 x24) 5 0) 6 0)))), (a 2, .inl (eJ E, 68, .inr (.inl x7.2.2.2.1))), (a 3, .inl (eJ E, 340, .inr (.inl x7.2.2.2.2.1))), (a 4, .inl (eI E, 3, .inl x7.2.2.2.2.2.1)), (a 5, .inl (eI E, 120, .inl x7.2.2.2.2.2.2.1)), (a 6, .inl (eI E, 60, .inl x7.2.2.2.2.2.2.2.1)), (a 7, .inl (eI E, 120, .inl x7.2.2.2.2.2.2.2.2))]) (pc := 277) hx hb hK.1 hP hD hS 1 1 rfl rfl (g_in (by decide +kernel)) rfl rfl dX6_putRest_277 (fun H locs hP hD hS => ?_)
                    refine lv_aload_n (pc := 278) hx hb dX6_putRest_278 rfl (lv_at hl 0 rfl) ?_
                    refine g_get (v := .ref (a 1)) (pc := 279) hx hb hts ii_X6_putRest_X6 hown hK.1 hP 0 rfl rfl 0 (by decide) ⟨rfl, rfl, rfl⟩ mm_X6_putRest_7 rfl dX6_putRest_279 ?_
                    refine lv_bipush (v := 8) (pc := 282) hx hb dX6_putRest_282 rfl ?_
                    refine lv_dup2_11 (pc := 284) hx hb dX6_putRest_284 rfl rfl ?_
                    refine g_lald (j := 8) (v := (x18 8)) (pc := 285) hx hb hK.1 hP 1 1 rfl rfl (g_in (by decide +kernel)) rfl rfl dX6_putRest_285 ?_
                    refine lv_lconst (v := 1) (pc := 286) hx hb dX6_putRest_286 rfl ?_
                    refine lv_ladd (pc := 287) hx hb dX6_putRest_287 ?_
                    refine g_topl (fun x26 ex26 => ?_)
                    refine g_last (j := 8) (w1 := [(a 0, .inr (6, [.ref (a 1), .ref (a 2), .ref (a 3), .int (x7.1 0), .ref (a 4), .ref (a 5), .int (x7.1 1), .int (x7.1 2), .int (x7.1 3), .ref (a 6), .ref (a 7), .int (x7.1 4), .int (x7.1 5), .int (x7.1 6), .long x7.2.1])), (a 1, .inl (eJ E, 68, .inr (.inl (vp_updL (vp_updL (vp_updL (vp_updL (vp_updL x18 1 x21) 0 x24) 5 0) 6 0) 8 x26)))), (a 2, .inl (eJ E, 68, .inr (.inl x7.2.2.2.1))), (a 3, .inl (eJ E, 340, .inr (.inl x7.2.2.2.2.1))), (a 4, .inl (eI E, 3, .inl x7.2.2.2.2.2.1)), (a 5, .inl (eI E, 120, .inl x7.2.2.2.2.2.2.1)), (a 6, .inl (eI E, 60, .inl x7.2.2.2.2.2.2.2.1)), (a 7, .inl (eI E, 120, .inl x7.2.2.2.2.2.2.2.2))]) (pc := 288) hx hb hK.1 hP hD hS 1 1 rfl rfl (g_in (by decide +kernel)) rfl rfl dX6_putRest_288 (fun H locs hP hD hS => ?_)
                    refine lv_aload_n (pc := 289) hx hb dX6_putRest_289 rfl (lv_at hl 0 rfl) ?_
                    refine g_get (v := .ref (a 1)) (pc := 290) hx hb hts ii_X6_putRest_X6 hown hK.1 hP 0 rfl rfl 0 (by decide) ⟨rfl, rfl, rfl⟩ mm_X6_putRest_7 rfl dX6_putRest_290 ?_
                    refine lv_bipush (v := 9) (pc := 293) hx hb dX6_putRest_293 rfl ?_
                    refine lv_aload_n (pc := 295) hx hb dX6_putRest_295 rfl (lv_at hl 0 rfl) ?_
                    refine g_get (v := .int (x7.1 2)) (pc := 296) hx hb hts ii_X6_putRest_X6 hown hK.1 hP 0 rfl rfl 7 (by decide) ⟨rfl, rfl, rfl⟩ mm_X6_putRest_3 rfl dX6_putRest_296 ?_
                    refine lv_i2l (v := (x7.1 2).toInt64) (pc := 299) hx hb dX6_putRest_299 rfl ?_
                    refine g_topl (fun x27 ex27 => ?_)
                    refine g_last (j := 9) (w1 := [(a 0, .inr (6, [.ref (a 1), .ref (a 2), .ref (a 3), .int (x7.1 0), .ref (a 4), .ref (a 5), .int (x7.1 1), .int (x7.1 2), .int (x7.1 3), .ref (a 6), .ref (a 7), .int (x7.1 4), .int (x7.1 5), .int (x7.1 6), .long x7.2.1])), (a 1, .inl (eJ E, 68, .inr (.inl (vp_updL (vp_updL (vp_updL (vp_updL (vp_updL (vp_updL x18 1 x21) 0 x24) 5 0) 6 0) 8 x26) 9 x27)))), (a 2, .inl (eJ E, 68, .inr (.inl x7.2.2.2.1))), (a 3, .inl (eJ E, 340, .inr (.inl x7.2.2.2.2.1))), (a 4, .inl (eI E, 3, .inl x7.2.2.2.2.2.1)), (a 5, .inl (eI E, 120, .inl x7.2.2.2.2.2.2.1)), (a 6, .inl (eI E, 60, .inl x7.2.2.2.2.2.2.2.1)), (a 7, .inl (eI E, 120, .inl x7.2.2.2.2.2.2.2.2))]) (pc := 300) hx hb hK.1 hP hD hS 1 1 rfl rfl (g_in (by decide +kernel)) rfl rfl dX6_putRest_300 (fun H locs hP hD hS => ?_)
                    refine lv_aload_n (pc := 301) hx hb dX6_putRest_301 rfl (lv_at hl 0 rfl) ?_
                    refine g_get (v := .ref (a 1)) (pc := 302) hx hb hts ii_X6_putRest_X6 hown hK.1 hP 0 rfl rfl 0 (by decide) ⟨rfl, rfl, rfl⟩ mm_X6_putRest_7 rfl dX6_putRest_302 ?_
                    refine lv_bipush (v := 10) (pc := 305) hx hb dX6_putRest_305 rfl ?_
                    refine lv_aload_n (pc := 307) hx hb dX6_putRest_307 rfl (lv_at hl 0 rfl) ?_
                    refine g_get (v := .int (x7.1 3)) (pc := 308) hx hb hts ii_X6_putRest_X6 hown hK.1 hP 0 rfl rfl 8 (by decide) ⟨rfl, rfl, rfl⟩ mm_X6_putRest_5 rfl dX6_putRest_308 ?_
                    refine lv_i2l (v := (x7.1 3).toInt64) (pc := 311) hx hb dX6_putRest_311 rfl ?_
                    refine g_topl (fun x28 ex28 => ?_)
                    refine g_last (j := 10) (w1 := [(a 0, .inr (6, [.ref (a 1), .ref (a 2), .ref (a 3), .int (x7.1 0), .ref (a 4), .ref (a 5), .int (x7.1 1), .int (x7.1 2), .int (x7.1 3), .ref (a 6), .ref (a 7), .int (x7.1 4), .int (x7.1 5), .int (x7.1 6), .long x7.2.1])), (a 1, .inl (eJ E, 68, .inr (.inl (vp_updL (vp_updL (vp_updL (vp_updL (vp_updL (vp_updL (vp_updL x18 1 x21) 0 x24) 5 0) 6 0) 8 x26) 9 x27) 10 x28)))), (a 2, .inl (eJ E, 68, .inr (.inl x7.2.2.2.1))), (a 3, .inl (eJ E, 340, .inr (.inl x7.2.2.2.2.1))), (a 4, .inl (eI E, 3, .inl x7.2.2.2.2.2.1)), (a 5, .inl (eI E, 120, .inl x7.2.2.2.2.2.2.1)), (a 6, .inl (eI E, 60, .inl x7.2.2.2.2.2.2.2.1)), (a 7, .inl (eI E, 120, .inl x7.2.2.2.2.2.2.2.2))]) (pc := 312) hx hb hK.1 hP hD hS 1 1 rfl rfl (g_in (by decide +kernel)) rfl rfl dX6_putRest_312 (fun H locs hP hD hS => ?_)
                    refine lv_aload_n (pc := 313) hx hb dX6_putRest_313 rfl (lv_at hl 0 rfl) ?_
                    refine g_get (v := .ref (a 1)) (pc := 314) hx hb hts ii_X6_putRest_X6 hown hK.1 hP 0 rfl rfl 0 (by decide) ⟨rfl, rfl, rfl⟩ mm_X6_putRest_7 rfl dX6_putRest_314 ?_
                    refine lv_iconst (v := 4) (pc := 317) hx hb dX6_putRest_317 rfl ?_
                    refine lv_aload_n (pc := 318) hx hb dX6_putRest_318 rfl (lv_at hl 0 rfl) ?_
                    refine g_get (v := .ref (a 1)) (pc := 319) hx hb hts ii_X6_putRest_X6 hown hK.1 hP 0 rfl rfl 0 (by decide) ⟨rfl, rfl, rfl⟩ mm_X6_putRest_7 rfl dX6_putRest_319 ?_
                    refine lv_iconst (v := 1) (pc := 322) hx hb dX6_putRest_322 rfl ?_
                    refine g_lald (j := 1) (v := x21) (pc := 323) hx hb hK.1 hP 1 1 rfl rfl (g_in (by decide +kernel)) rfl rfl dX6_putRest_323 ?_
                    refine lv_lconst (v := 0) (pc := 324) hx hb dX6_putRest_324 rfl ?_
                    have J_31 : ∀ (H : Heap) (locs : List Loc) (ls : Array Slot) (x30 : Int64), (if x21 = 0 then 0 else (x18 4)) = x30 → va_P E.1 vwCl [(a 0, .inr (6, [.ref (a 1), .ref (a 2), .ref (a 3), .int (x7.1 0), .ref (a 4), .ref (a 5), .int (x7.1 1), .int (x7.1 2), .int (x7.1 3), .ref (a 6), .ref (a 7), .int (x7.1 4), .int (x7.1 5), .int (x7.1 6), .long x7.2.1])), (a 1, .inl (eJ E, 68, .inr (.inl (vp_updL (vp_updL (vp_updL (vp_updL (vp_updL (vp_updL (vp_updL x18 1 x21) 0 x24) 5 0) 6 0) 8 x26) 9 x27) 10 x28)))), (a 2, .inl (eJ E, 68, .inr (.inl x7.2.2.2.1))), (a 3, .inl (eJ E, 340, .inr (.inl x7.2.2.2.2.1))), (a 4, .inl (eI E, 3, .inl x7.2.2.2.2.2.1)), (a 5, .inl (eI E, 120, .inl x7.2.2.2.2.2.2.1)), (a 6, .inl (eI E, 60, .inl x7.2.2.2.2.2.2.2.1)), (a 7, .inl (eI E, 120, .inl x7.2.2.2.2.2.2.2.2))] H → va_D A [(a 0, .inr (6, [.ref (a 1), .ref (a 2), .ref (a 3), .int (x7.1 0), .ref (a 4), .ref (a 5), .int (x7.1 1), .int (x7.1 2), .int (x7.1 3), .ref (a 6), .ref (a 7), .int (x7.1 4), .int (x7.1 5), .int (x7.1 6), .long x7.2.1])), (a 1, .inl (eJ E, 68, .inr (.inl (vp_updL (vp_updL (vp_updL (vp_updL (vp_updL (vp_updL (vp_updL x18 1 x21) 0 x24) 5 0) 6 0) 8 x26) 9 x27) 10 x28)))), (a 2, .inl (eJ E, 68, .inr (.inl x7.2.2.2.1))), (a 3, .inl (eJ E, 340, .inr (.inl x7.2.2.2.2.1))), (a 4, .inl (eI E, 3, .inl x7.2.2.2.2.2.1)), (a 5, .inl (eI E, 120, .inl x7.2.2.2.2.2.2.1)), (a 6, .inl (eI E, 60, .inl x7.2.2.2.2.2.2.2.1)), (a 7, .inl (eI E, 120, .inl x7.2.2.2.2.2.2.2.2))] → va_S A s.heap H locs → lv_has ls 6 [(0, .ref (a 0)), (1, .int v), (2, .long x12), (4, .long x15)] → W p l e rX6_putRest s m args below meth c H locs 0 0 Q (F0 m 339 ls [.long x30, .int 4, .ref (a 1)]) := by
                      intro H locs ls x30 ex30 hP hD hS hl
                      refine g_last (j := 4) (w1 := [(a 0, .inr (6, [.ref (a 1), .ref (a 2), .ref (a 3), .int (x7.1 0), .ref (a 4), .ref (a 5), .int (x7.1 1), .int (x7.1 2), .int (x7.1 3), .ref (a 6), .ref (a 7), .int (x7.1 4), .int (x7.1 5), .int (x7.1 6), .long x7.2.1])), (a 1, .inl (eJ E, 68, .inr (.inl (vp_updL (vp_updL (vp_updL (vp_updL (vp_updL (vp_updL (vp_updL (vp_updL x18 1 x21) 0 x24) 5 0) 6 0) 8 x26) 9 x27) 10 x28) 4 x30)))), (a 2, .inl (eJ E, 68, .inr (.inl x7.2.2.2.1))), (a 3, .inl (eJ E, 340, .inr (.inl x7.2.2.2.2.1))), (a 4, .inl (eI E, 3, .inl x7.2.2.2.2.2.1)), (a 5, .inl (eI E, 120, .inl x7.2.2.2.2.2.2.1)), (a 6, .inl (eI E, 60, .inl x7.2.2.2.2.2.2.2.1)), (a 7, .inl (eI E, 120, .inl x7.2.2.2.2.2.2.2.2))]) (pc := 339) hx hb hK.1 hP hD hS 1 1 rfl rfl (g_in (by decide +kernel)) rfl rfl dX6_putRest_339 (fun H locs hP hD hS => ?_)
                      refine lv_aload_n (pc := 340) hx hb dX6_putRest_340 rfl (lv_at hl 0 rfl) ?_
                      refine g_get (v := .ref (a 1)) (pc := 341) hx hb hts ii_X6_putRest_X6 hown hK.1 hP 0 rfl rfl 0 (by decide) ⟨rfl, rfl, rfl⟩ mm_X6_putRest_7 rfl dX6_putRest_341 ?_
                      refine lv_iconst (v := 1) (pc := 344) hx hb dX6_putRest_344 rfl ?_
                      refine g_lald (j := 1) (v := x21) (pc := 345) hx hb hK.1 hP 1 1 rfl rfl (g_in (by decide +kernel)) rfl rfl dX6_putRest_345 ?_
                      refine lv_aload_n (pc := 346) hx hb dX6_putRest_346 rfl (lv_at hl 0 rfl) ?_
                      refine g_get (v := .ref (a 1)) (pc := 347) hx hb hts ii_X6_putRest_X6 hown hK.1 hP 0 rfl rfl 0 (by decide) ⟨rfl, rfl, rfl⟩ mm_X6_putRest_7 rfl dX6_putRest_347 ?_
                      refine lv_iconst (v := 0) (pc := 350) hx hb dX6_putRest_350 rfl ?_
                      refine g_lald (j := 0) (v := x24) (pc := 351) hx hb hK.1 hP 1 1 rfl rfl (g_in (by decide +kernel)) rfl rfl dX6_putRest_351 ?_
                      refine lv_lsub (pc := 352) hx hb dX6_putRest_352 ?_
                      refine lv_l2i (v := (x21 - x24).toInt32) (pc := 353) hx hb dX6_putRest_353 rfl ?_
                      subst ex30
                      subst ex28
                      subst ex27
                      subst ex26
                      subst ex24
                      subst ex21
                      subst ex18
                      subst ex15
                      subst ex12
                      subst ex10
                      subst ex9
                      subst ex7
                      subst er3
                      subst er1
                      have hfn : fX6_putRest M v = _ := (if_neg c_2).trans ((if_neg c_4).trans (if_neg c_5))
                      rw [hfn] at hQ
                      exact hQ _ _ _ _ _ rfl hP hD hS dX6_putRest_354
                    refine gl_ne (tgt := 333) (pc := 325) hx hb dX6_putRest_325 dX6_putRest_326 rfl (fun c_29 => ?_) (fun c_29 => ?_)
                    · refine lv_aload_n (pc := 333) hx hb dX6_putRest_333 rfl (lv_at hl 0 rfl) ?_
                      refine g_get (v := .ref (a 1)) (pc := 334) hx hb hts ii_X6_putRest_X6 hown hK.1 hP 0 rfl rfl 0 (by decide) ⟨rfl, rfl, rfl⟩ mm_X6_putRest_7 rfl dX6_putRest_334 ?_
                      refine lv_iconst (v := 4) (pc := 337) hx hb dX6_putRest_337 rfl ?_
                      refine g_lald (j := 4) (v := (x18 4)) (pc := 338) hx hb hK.1 hP 1 1 rfl rfl (g_in (by decide +kernel)) rfl rfl dX6_putRest_338 ?_
                      exact J_31 _ _ _ _ (if_neg c_29) hP hD hS (lv_sub hl [0, 1, 2, 3] rfl)
                    · refine lv_lconst (v := 0) (pc := 329) hx hb dX6_putRest_329 rfl ?_
                      refine lv_goto (tgt := 339) (pc := 330) hx hb dX6_putRest_330 (by decide) ?_
                      exact J_31 _ _ _ _ (if_pos c_29) hP hD hS (lv_sub hl [0, 1, 2, 3] rfl)
                  refine gl_le (tgt := 256) (pc := 243) hx hb dX6_putRest_243 dX6_putRest_244 rfl (fun c_23 => ?_) (fun c_23 => ?_)
                  · refine lv_aload_n (pc := 256) hx hb dX6_putRest_256 rfl (lv_at hl 0 rfl) ?_
                    refine g_get (v := .ref (a 1)) (pc := 257) hx hb hts ii_X6_putRest_X6 hown hK.1 hP 0 rfl rfl 0 (by decide) ⟨rfl, rfl, rfl⟩ mm_X6_putRest_7 rfl dX6_putRest_257 ?_
                    refine lv_iconst (v := 0) (pc := 260) hx hb dX6_putRest_260 rfl ?_
                    refine g_lald (j := 0) (v := (x18 0)) (pc := 261) hx hb hK.1 hP 1 1 rfl rfl (g_in (by decide +kernel)) rfl rfl dX6_putRest_261 ?_
                    exact J_25 _ _ _ _ (if_pos c_23) hP hD hS (lv_sub hl [0, 1, 2, 3] rfl)
                  · refine lv_aload_n (pc := 247) hx hb dX6_putRest_247 rfl (lv_at hl 0 rfl) ?_
                    refine g_get (v := .ref (a 1)) (pc := 248) hx hb hts ii_X6_putRest_X6 hown hK.1 hP 0 rfl rfl 0 (by decide) ⟨rfl, rfl, rfl⟩ mm_X6_putRest_7 rfl dX6_putRest_248 ?_
                    refine lv_iconst (v := 3) (pc := 251) hx hb dX6_putRest_251 rfl ?_
                    refine g_lald (j := 3) (v := (x18 3)) (pc := 252) hx hb hK.1 hP 1 1 rfl rfl (g_in (by decide +kernel)) rfl rfl dX6_putRest_252 ?_
                    refine lv_goto (tgt := 262) (pc := 253) hx hb dX6_putRest_253 (by decide) ?_
                    exact J_25 _ _ _ _ (if_neg c_23) hP hD hS (lv_sub hl [0, 1, 2, 3] rfl)
                refine gl_le (tgt := 219) (pc := 206) hx hb dX6_putRest_206 dX6_putRest_207 rfl (fun c_20 => ?_) (fun c_20 => ?_)
                · refine lv_aload_n (pc := 219) hx hb dX6_putRest_219 rfl (lv_at hl 0 rfl) ?_
                  refine g_get (v := .ref (a 1)) (pc := 220) hx hb hts ii_X6_putRest_X6 hown hK.1 hP 0 rfl rfl 0 (by decide) ⟨rfl, rfl, rfl⟩ mm_X6_putRest_7 rfl dX6_putRest_220 ?_
                  refine lv_iconst (v := 1) (pc := 223) hx hb dX6_putRest_223 rfl ?_
                  refine g_lald (j := 1) (v := (x18 1)) (pc := 224) hx hb hK.1 hP 1 1 rfl rfl (g_in (by decide +kernel)) rfl rfl dX6_putRest_224 ?_
                  exact J_22 _ _ _ _ (if_pos c_20) hP hD hS (lv_sub hl [0, 1, 2, 3] rfl)
                · refine lv_aload_n (pc := 210) hx hb dX6_putRest_210 rfl (lv_at hl 0 rfl) ?_
                  refine g_get (v := .ref (a 1)) (pc := 211) hx hb hts ii_X6_putRest_X6 hown hK.1 hP 0 rfl rfl 0 (by decide) ⟨rfl, rfl, rfl⟩ mm_X6_putRest_7 rfl dX6_putRest_211 ?_
                  refine lv_iconst (v := 3) (pc := 214) hx hb dX6_putRest_214 rfl ?_
                  refine g_lald (j := 3) (v := (x18 3)) (pc := 215) hx hb hK.1 hP 1 1 rfl rfl (g_in (by decide +kernel)) rfl rfl dX6_putRest_215 ?_
                  refine lv_goto (tgt := 225) (pc := 216) hx hb dX6_putRest_216 (by decide) ?_
                  exact J_22 _ _ _ _ (if_neg c_20) hP hD hS (lv_sub hl [0, 1, 2, 3] rfl)
              refine gl_le (tgt := 174) (pc := 156) hx hb dX6_putRest_156 dX6_putRest_157 rfl (fun c_17 => ?_) (fun c_17 => ?_)
              · refine lv_aload_n (pc := 174) hx hb dX6_putRest_174 rfl (lv_at hl 1 rfl) ?_
                refine g_get (v := .ref (a 1)) (pc := 175) hx hb hts ii_X6_putRest_X6 hown hK.1 hP 0 rfl rfl 0 (by decide) ⟨rfl, rfl, rfl⟩ mm_X6_putRest_7 rfl dX6_putRest_175 ?_
                refine lv_iconst (v := 0) (pc := 178) hx hb dX6_putRest_178 rfl ?_
                refine lv_lload_n (pc := 179) hx hb dX6_putRest_179 rfl (lv_at hl 3 rfl) ?_
                refine g_last (j := 0) (w1 := [(a 0, .inr (6, [.ref (a 1), .ref (a 2), .ref (a 3), .int (x7.1 0), .ref (a 4), .ref (a 5), .int (x7.1 1), .int (x7.1 2), .int (x7.1 3), .ref (a 6), .ref (a 7), .int (x7.1 4), .int (x7.1 5), .int (x7.1 6), .long x7.2.1])), (a 1, .inl (eJ E, 68, .inr (.inl (vp_updL x7.2.2.1 0 x12)))), (a 2, .inl (eJ E, 68, .inr (.inl x7.2.2.2.1))), (a 3, .inl (eJ E, 340, .inr (.inl x7.2.2.2.2.1))), (a 4, .inl (eI E, 3, .inl x7.2.2.2.2.2.1)), (a 5, .inl (eI E, 120, .inl x7.2.2.2.2.2.2.1)), (a 6, .inl (eI E, 60, .inl x7.2.2.2.2.2.2.2.1)), (a 7, .inl (eI E, 120, .inl x7.2.2.2.2.2.2.2.2))]) (pc := 180) hx hb hK.1 hP hD hS 1 1 rfl rfl (g_in (by decide +kernel)) rfl rfl dX6_putRest_180 (fun H locs hP hD hS => ?_)
                refine lv_aload_n (pc := 181) hx hb dX6_putRest_181 rfl (lv_at hl 1 rfl) ?_
                refine g_get (v := .ref (a 1)) (pc := 182) hx hb hts ii_X6_putRest_X6 hown hK.1 hP 0 rfl rfl 0 (by decide) ⟨rfl, rfl, rfl⟩ mm_X6_putRest_7 rfl dX6_putRest_182 ?_
                refine lv_iconst (v := 1) (pc := 185) hx hb dX6_putRest_185 rfl ?_
                refine lv_lload (pc := 186) hx hb dX6_putRest_186 (lv_at hl 0 rfl) ?_
                refine g_last (j := 1) (w1 := [(a 0, .inr (6, [.ref (a 1), .ref (a 2), .ref (a 3), .int (x7.1 0), .ref (a 4), .ref (a 5), .int (x7.1 1), .int (x7.1 2), .int (x7.1 3), .ref (a 6), .ref (a 7), .int (x7.1 4), .int (x7.1 5), .int (x7.1 6), .long x7.2.1])), (a 1, .inl (eJ E, 68, .inr (.inl (vp_updL (vp_updL x7.2.2.1 0 x12) 1 x15)))), (a 2, .inl (eJ E, 68, .inr (.inl x7.2.2.2.1))), (a 3, .inl (eJ E, 340, .inr (.inl x7.2.2.2.2.1))), (a 4, .inl (eI E, 3, .inl x7.2.2.2.2.2.1)), (a 5, .inl (eI E, 120, .inl x7.2.2.2.2.2.2.1)), (a 6, .inl (eI E, 60, .inl x7.2.2.2.2.2.2.2.1)), (a 7, .inl (eI E, 120, .inl x7.2.2.2.2.2.2.2.2))]) (pc := 188) hx hb hK.1 hP hD hS 1 1 rfl rfl (g_in (by decide +kernel)) rfl rfl dX6_putRest_188 (fun H locs hP hD hS => ?_)
                exact J_19 _ _ _ _ (if_pos c_17) hP hD hS (lv_sub hl [1, 2, 3, 0] rfl)
              · refine lv_aload_n (pc := 160) hx hb dX6_putRest_160 rfl (lv_at hl 1 rfl) ?_
                refine g_get (v := .ref (a 1)) (pc := 161) hx hb hts ii_X6_putRest_X6 hown hK.1 hP 0 rfl rfl 0 (by decide) ⟨rfl, rfl, rfl⟩ mm_X6_putRest_7 rfl dX6_putRest_161 ?_
                refine lv_bipush (v := 7) (pc := 164) hx hb dX6_putRest_164 rfl ?_
                refine lv_dup2_11 (pc := 166) hx hb dX6_putRest_166 rfl rfl ?_
                refine g_lald (j := 7) (v := (x7.2.2.1 7)) (pc := 167) hx hb hK.1 hP 1 1 rfl rfl (g_in (by decide +kernel)) rfl rfl dX6_putRest_167 ?_
                refine lv_lconst (v := 1) (pc := 168) hx hb dX6_putRest_168 rfl ?_
                refine lv_ladd (pc := 169) hx hb dX6_putRest_169 ?_
                refine g_topl (fun x18 ex18 => ?_)
                refine g_last (j := 7) (w1 := [(a 0, .inr (6, [.ref (a 1), .ref (a 2), .ref (a 3), .int (x7.1 0), .ref (a 4), .ref (a 5), .int (x7.1 1), .int (x7.1 2), .int (x7.1 3), .ref (a 6), .ref (a 7), .int (x7.1 4), .int (x7.1 5), .int (x7.1 6), .long x7.2.1])), (a 1, .inl (eJ E, 68, .inr (.inl (vp_updL x7.2.2.1 7 x18)))), (a 2, .inl (eJ E, 68, .inr (.inl x7.2.2.2.1))), (a 3, .inl (eJ E, 340, .inr (.inl x7.2.2.2.2.1))), (a 4, .inl (eI E, 3, .inl x7.2.2.2.2.2.1)), (a 5, .inl (eI E, 120, .inl x7.2.2.2.2.2.2.1)), (a 6, .inl (eI E, 60, .inl x7.2.2.2.2.2.2.2.1)), (a 7, .inl (eI E, 120, .inl x7.2.2.2.2.2.2.2.2))]) (pc := 170) hx hb hK.1 hP hD hS 1 1 rfl rfl (g_in (by decide +kernel)) rfl rfl dX6_putRest_170 (fun H locs hP hD hS => ?_)
                refine lv_goto (tgt := 189) (pc := 171) hx hb dX6_putRest_171 (by decide) ?_
                subst ex18
                exact J_19 _ _ _ _ (if_neg c_17) hP hD hS (lv_sub hl [1, 2, 3, 0] rfl)
            refine gl_ge (tgt := 145) (pc := 136) hx hb dX6_putRest_136 dX6_putRest_137 rfl (fun c_14 => ?_) (fun c_14 => ?_)
            · refine lv_aload_n (pc := 145) hx hb dX6_putRest_145 rfl (lv_at hl 1 rfl) ?_
              refine g_get (v := .ref (a 1)) (pc := 146) hx hb hts ii_X6_putRest_X6 hown hK.1 hP 0 rfl rfl 0 (by decide) ⟨rfl, rfl, rfl⟩ mm_X6_putRest_7 rfl dX6_putRest_146 ?_
              refine lv_iconst (v := 1) (pc := 149) hx hb dX6_putRest_149 rfl ?_
              refine g_lald (j := 1) (v := (x7.2.2.1 1)) (pc := 150) hx hb hK.1 hP 1 1 rfl rfl (g_in (by decide +kernel)) rfl rfl dX6_putRest_150 ?_
              exact J_16 _ _ _ _ (if_pos c_14) hP hD hS (lv_sub hl [1, 2, 0, 3] rfl)
            · refine lv_lload (pc := 140) hx hb dX6_putRest_140 (lv_at hl 3 rfl) ?_
              refine lv_goto (tgt := 151) (pc := 142) hx hb dX6_putRest_142 (by decide) ?_
              exact J_16 _ _ _ _ (if_neg c_14) hP hD hS (lv_sub hl [1, 2, 0, 3] rfl)
          refine gl_le (tgt := 121) (pc := 113) hx hb dX6_putRest_113 dX6_putRest_114 rfl (fun c_11 => ?_) (fun c_11 => ?_)
          · refine lv_aload_n (pc := 121) hx hb dX6_putRest_121 rfl (lv_at hl 2 rfl) ?_
            refine g_get (v := .ref (a 1)) (pc := 122) hx hb hts ii_X6_putRest_X6 hown hK.1 hP 0 rfl rfl 0 (by decide) ⟨rfl, rfl, rfl⟩ mm_X6_putRest_7 rfl dX6_putRest_122 ?_
            refine lv_iconst (v := 0) (pc := 125) hx hb dX6_putRest_125 rfl ?_
            refine g_lald (j := 0) (v := (x7.2.2.1 0)) (pc := 126) hx hb hK.1 hP 1 1 rfl rfl (g_in (by decide +kernel)) rfl rfl dX6_putRest_126 ?_
            exact J_13 _ _ _ _ (if_pos c_11) hP hD hS (lv_sub hl [2, 3, 1, 0] rfl)
          · refine lv_lload_n (pc := 117) hx hb dX6_putRest_117 rfl (lv_at hl 1 rfl) ?_
            refine lv_goto (tgt := 127) (pc := 118) hx hb dX6_putRest_118 (by decide) ?_
            exact J_13 _ _ _ _ (if_neg c_11) hP hD hS (lv_sub hl [2, 3, 1, 0] rfl)
        refine gl_le (tgt := 67) (pc := 49) hx hb dX6_putRest_49 dX6_putRest_50 rfl (fun c_6 => ?_) (fun c_6 => ?_)
        · exact J_8 _ _ _ _ (if_pos c_6) hP hD hS (lv_sub hl [0, 1] rfl)
        · refine lv_aload_n (pc := 53) hx hb dX6_putRest_53 rfl (lv_at hl 0 rfl) ?_
          refine lv_aload_n (pc := 54) hx hb dX6_putRest_54 rfl (lv_at hl 0 rfl) ?_
          refine g_get (v := .int (r3.1 2)) (pc := 55) hx hb hts ii_X6_putRest_X6 hown hK.1 hP 0 rfl rfl 7 (by decide) ⟨rfl, rfl, rfl⟩ mm_X6_putRest_3 rfl dX6_putRest_55 ?_
          refine lv_i2l (v := (r3.1 2).toInt64) (pc := 58) hx hb dX6_putRest_58 rfl ?_
          refine lv_aload_n (pc := 59) hx hb dX6_putRest_59 rfl (lv_at hl 0 rfl) ?_
          refine g_get (v := .int (r3.1 3)) (pc := 60) hx hb hts ii_X6_putRest_X6 hown hK.1 hP 0 rfl rfl 8 (by decide) ⟨rfl, rfl, rfl⟩ mm_X6_putRest_5 rfl dX6_putRest_60 ?_
          refine lv_i2l (v := (r3.1 3).toInt64) (pc := 63) hx hb dX6_putRest_63 rfl ?_
          obtain ⟨r7, er7⟩ : ∃ z : Mdl, fX6_learnsCapacity r3 ((r3.1 2).toInt64) ((r3.1 3).toInt64) = z := ⟨_, rfl⟩
          have hr7 := kX6_learnsCapacity l E a r3 ((r3.1 2).toInt64) ((r3.1 3).toInt64)
          rw [er7] at hr7
          refine gcVv (pc := 64) (w1 := [(a 0, .inr (6, [.ref (a 1), .ref (a 2), .ref (a 3), .int (r7.1 0), .ref (a 4), .ref (a 5), .int (r7.1 1), .int (r7.1 2), .int (r7.1 3), .ref (a 6), .ref (a 7), .int (r7.1 4), .int (r7.1 5), .int (r7.1 6), .long r7.2.1])), (a 1, .inl (eJ E, 68, .inr (.inl r7.2.2.1))), (a 2, .inl (eJ E, 68, .inr (.inl r7.2.2.2.1))), (a 3, .inl (eJ E, 340, .inr (.inl r7.2.2.2.2.1))), (a 4, .inl (eI E, 3, .inl r7.2.2.2.2.2.1)), (a 5, .inl (eI E, 120, .inl r7.2.2.2.2.2.2.1)), (a 6, .inl (eI E, 60, .inl r7.2.2.2.2.2.2.2.1)), (a 7, .inl (eI E, 120, .inl r7.2.2.2.2.2.2.2.2))]) (pre := []) (post := []) (As := [.long ((r3.1 2).toInt64), .long ((r3.1 3).toInt64)]) (rest := []) (q0 := 0) ⟨hx, hb, hml, hown, hts⟩ hr7 (cwV 2 hts gX6_putRest_X6_learnsCapacity rfl rfl rfl qvX6_learnsCapacity ⟨Nat.le_of_ble_eq_true rfl, Nat.le_of_ble_eq_true rfl⟩) hK hP hD hS hA rfl rfl rfl rfl rfl hl.1 rfl (Nat.le_of_ble_eq_true rfl) dX6_putRest_64 ⟨Nat.zero_le _, Nat.zero_le _⟩ (fun H locs hP hD hS => ?_)
          subst er7
          exact J_8 _ _ _ _ (if_neg c_6) hP hD hS (lv_sub hl [0, 1] rfl)
      · refine lv_ldc (v := (-10000003)) (pc := 38) hx hb hown (hts _ mm_X6_putRest_6) dX6_putRest_38 ?_
        subst er3
        subst er1
        have hfn : fX6_putRest M v = _ := (if_neg c_2).trans ((if_neg c_4).trans (if_pos c_5))
        rw [hfn] at hQ
        exact hQ _ _ _ _ _ rfl hP hD hS dX6_putRest_40
  · refine lv_ldc (v := (-10000002)) (pc := 12) hx hb hown (hts _ mm_X6_putRest_2) dX6_putRest_12 ?_
    subst er1
    have hfn : fX6_putRest M v = _ := if_pos c_2
    rw [hfn] at hQ
    exact hQ _ _ _ _ _ rfl hP hD hS dX6_putRest_14
