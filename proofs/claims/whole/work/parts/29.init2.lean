/-! constructors: states, the whole -/
theorem arrV_cg {cA : ClassId} {n : Nat} {z z' : Nat → Value} (h : ∀ k, k < n → z k = z' k) : arrV cA n z = arrV cA n z' := by
  unfold arrV
  have q : (fun j : Fin n => z j.val) = (fun j : Fin n => z' j.val) := funext fun j => h j.val j.isLt
  rw [q]
theorem gP_cell {D : va_G} {cl : List vw_C} {H : Heap} {pre post : va_W} {a : Nat} {cA : ClassId} {x y : vp_A} (e : vp_cell cA x = vp_cell cA y) (h : va_P D cl (pre ++ ((a, .inl (cA, x)) :: post)) H) : va_P D cl (pre ++ ((a, .inl (cA, y)) :: post)) H := by
  have h2 := gP_r h
  refine va_P.app (gP_l h) (fun k q hk => ?_)
  cases k with
  | zero =>
    simp only [List.getElem?_cons_zero, Option.some.injEq] at hk
    subst hk
    have h3 : H[a]? = some (vp_cell cA x) := h2 0 _ rfl
    show H[a]? = some (vp_cell cA y)
    rw [← e]; exact h3
  | succ k => exact h2 (k + 1) q hk
theorem gD_cell {A : Nat → Prop} {pre post : va_W} {a : Nat} {x y : va_E} (h : va_D A (pre ++ ((a, x) :: post))) : va_D A (pre ++ ((a, y) :: post)) := by
  rw [gD_nd] at h ⊢
  refine ⟨by simpa using h.1, fun q hq => ?_⟩
  rcases List.mem_append.mp hq with g | g
  · exact h.2 q (List.mem_append_left _ g)
  · rcases List.mem_cons.mp g with g | g
    · subst g; exact h.2 (a, x) (List.mem_append_right _ List.mem_cons_self)
    · exact h.2 q (List.mem_append_right _ (List.mem_cons_of_mem _ g))

abbrev rX3_init : Room := { frames := 3, cells := 37, slots := 444, locals := 53 }
theorem mm_X3_init_1 : Cond.methodLink RX3 3 objectInit ∈ wsX3_init := List.mem_of_getElem? (i := 1) rfl
theorem mm_X3_init_2 : Cond.instanceMethod objectInit ∈ wsX3_init := List.mem_of_getElem? (i := 2) rfl
theorem mm_X3_init_3 : Cond.code objectInit ⟨#[0xb1]⟩ 1 none ∈ wsX3_init := List.mem_of_getElem? (i := 3) rfl
theorem mm_X3_init_4 : Cond.classLink RX3 9 RX1 ∈ wsX3_init := List.mem_of_getElem? (i := 4) rfl
theorem mm_X3_init_5 : Cond.fieldLink RX3 11 "GaugeBounds$States" "ring" "[LGaugeBounds$Battery;" ∈ wsX3_init := List.mem_of_getElem? (i := 5) rfl
theorem mm_X3_init_6 : Cond.instantiable RX1 15 ∈ wsX3_init := List.mem_of_getElem? (i := 6) rfl
theorem mm_X3_init_7 : Cond.initialized RX1 ∈ wsX3_init := List.mem_of_getElem? (i := 7) rfl
theorem mm_X3_init_8 : Cond.methodLink RX3 15 yX1_init ∈ wsX3_init := List.mem_of_getElem? (i := 8) rfl
theorem mm_X3_init_9 : Cond.instanceMethod yX1_init ∈ wsX3_init := List.mem_of_getElem? (i := 9) rfl
theorem ii_X3_init_X3 : ∀ w ∈ wsX30, w ∈ wsX3_init := fun _ h => List.mem_cons_of_mem _ (List.mem_append_left _ (List.mem_append_left _ (List.mem_append_left _ (List.mem_append_right _ (h)))))
theorem ii_X3_init_X1 : ∀ w ∈ wsX10, w ∈ wsX3_init := fun _ h => List.mem_cons_of_mem _ (List.mem_append_left _ (List.mem_append_left _ (List.mem_append_right _ (h))))
theorem qiX3_init : yX3_init.cls ≠ "java/lang/invoke/MethodHandle" ∧ yX3_init.cls ≠ "java/lang/invoke/VarHandle" ∧ (parseMethodDescriptor yX3_init.desc).map (fun d => d.parameters.length) = some 0 := by decide +kernel
set_option maxHeartbeats 4000000 in
set_option maxRecDepth 100000 in
theorem kX3_init (l : Launch) (E : gEnv) (h0 : Nat) : gMn (σ := Nat × (Nat → Nat → Nat)) l E yX3_init wsX3_init rX3_init [.ref h0] [(h0, .inr (3, [.null, .int 0, .int 0]))] (fun u => True) (fun u => wSt E h0 u.1 0 0 u.2 (fun _ => Bat0)) := by
  refine gMn_of (cc := cX3_init) (maxL := 2) (ret := none) (by decide) rfl rfl rfl (Nat.le_of_ble_eq_true rfl) ?_
  intro p e s m args below meth c A Q ls hB hAO hin hQ
  obtain ⟨hx, hb, hml, hown, hts, hK, hP, hD, hA, hS, hl⟩ := hB
  have hown : s.vm.findClass RX3 = some m.cls := hown
  have hP : va_P E.1 vwCl [(h0, .inr (3, [.null, .int 0, .int 0]))] s.heap := hP
  have hD : va_D A [(h0, .inr (3, [.null, .int 0, .int 0]))] := hD
  have hl : lv_has ls 2 [(0, .ref h0)] := hl
  refine lv_aload_n (pc := 0) hx hb dX3_init_0 rfl (lv_at hl 0 rfl) ?_
  refine W.objInit hx hb hown (hts _ mm_X3_init_1) (hts _ mm_X3_init_2) (hts _ mm_X3_init_3) rfl (hl.1.trans hml.symm) rfl dX3_init_1 (Nat.le_of_ble_eq_true rfl) (Nat.le_of_ble_eq_true rfl) ?_
  refine W.eq (g2 := F0 m 4 ls []) rfl ?_
  refine lv_aload_n (pc := 4) hx hb dX3_init_4 rfl (lv_at hl 0 rfl) ?_
  refine lv_bipush (v := 6) (pc := 5) hx hb dX3_init_5 rfl ?_
  refine g_newo (N' := 6) (pc := 7) hx hb hown (hts _ mm_X3_init_4) hAO hK hP hD hS hA (by decide) (by decide) (by decide) (Nat.le_of_ble_eq_true rfl) (Nat.le_of_ble_eq_true rfl) dX3_init_7 (fun q1 H hP hD hS => ?_)
  have hP : va_P E.1 vwCl [(h0, .inr (3, [.null, .int 0, .int 0])), (q1, .inl (eO E, 6, .inr (.inr (.inr (.inr (fun _ => none))))))] H := hP
  have hD : va_D A [(h0, .inr (3, [.null, .int 0, .int 0])), (q1, .inl (eO E, 6, .inr (.inr (.inr (.inr (fun _ => none))))))] := hD
  refine va_putF (D := E.1) (ci := 3) (v := .ref q1) (ty := tyX3 0) (C := RX3) (T := TX3) (N := 3) (pc := 10) hx hb hts ii_X3_init_X3 tyX3 tyX3_ok nmX3 hown hK.1 hP hD hS 0 rfl rfl 0 (by decide) (hts _ mm_X3_init_5) (fun _ h9 => h9) rfl hin rfl (by decide +kernel) rfl rfl (Nat.le_of_ble_eq_true rfl) dX3_init_10 (fun H locs hP hD hS => ?_)
  have hP : va_P E.1 vwCl [(h0, .inr (3, [.ref q1, .int 0, .int 0])), (q1, .inl (eO E, 6, .inr (.inr (.inr (.inr (fun _ => none))))))] H := hP
  have hD : va_D A [(h0, .inr (3, [.ref q1, .int 0, .int 0])), (q1, .inl (eO E, 6, .inr (.inr (.inr (.inr (fun _ => none))))))] := hD
  refine lv_iconst (v := 0) (pc := 13) hx hb dX3_init_13 rfl ?_
  refine lv_istore_n (lv' := [(1, .int 0), (0, .ref h0)]) (pc := 14) hx hb dX3_init_14 rfl hl (by decide) rfl (fun ls hl => ?_)
  refine lv_iload_n (pc := 15) hx hb dX3_init_15 rfl (lv_at hl 0 rfl) ?_
  refine lv_bipush (v := 6) (pc := 16) hx hb dX3_init_16 rfl ?_
  refine lv_icmp_ge (tgt := 40) (pc := 18) hx hb dX3_init_18 (by decide) (fun c_2 => ?_) (fun c_2 => ?_)
  · exact absurd c_2 (by decide)
  refine lv_aload_n (pc := 21) hx hb dX3_init_21 rfl (lv_at hl 1 rfl) ?_
  refine g_get (v := .ref q1) (pc := 22) hx hb hts ii_X3_init_X3 hown hK.1 hP 0 rfl rfl 0 (by decide) ⟨rfl, rfl, rfl⟩ mm_X3_init_5 rfl dX3_init_22 ?_
  refine lv_iload_n (pc := 25) hx hb dX3_init_25 rfl (lv_at hl 0 rfl) ?_
  refine va_new (ci := 1) (fs := [.null, .null, .int 0, .int 0, .int 0, .int 0, .int 0, .int 0, .int 0, .int 0, .int 0, .int 0, .int 0, .int 0, .int 0]) (C := RX1) (T := TX1) (N := 15) (pc := 26) hx hb hts ii_X3_init_X1 tyX1 tyX1_ok hown (hts _ mm_X3_init_4) (hts _ mm_X3_init_6) (hts _ mm_X3_init_7) hK.1 hP hD hS hA rfl (fun j hj => by rcases (show j = 0 ∨ j = 1 ∨ j = 2 ∨ j = 3 ∨ j = 4 ∨ j = 5 ∨ j = 6 ∨ j = 7 ∨ j = 8 ∨ j = 9 ∨ j = 10 ∨ j = 11 ∨ j = 12 ∨ j = 13 ∨ j = 14 by omega) with rfl | rfl | rfl | rfl | rfl | rfl | rfl | rfl | rfl | rfl | rfl | rfl | rfl | rfl | rfl <;> rfl) (Nat.le_of_ble_eq_true rfl) (Nat.le_of_ble_eq_true rfl) dX3_init_26 (fun q3 H hP hD hS => ?_)
  have hP : va_P E.1 vwCl [(h0, .inr (3, [.ref q1, .int 0, .int 0])), (q1, .inl (eO E, 6, .inr (.inr (.inr (.inr (fun _ => none)))))), (q3, .inr (1, [.null, .null, .int 0, .int 0, .int 0, .int 0, .int 0, .int 0, .int 0, .int 0, .int 0, .int 0, .int 0, .int 0, .int 0]))] H := hP
  have hD : va_D A [(h0, .inr (3, [.ref q1, .int 0, .int 0])), (q1, .inl (eO E, 6, .inr (.inr (.inr (.inr (fun _ => none)))))), (q3, .inr (1, [.null, .null, .int 0, .int 0, .int 0, .int 0, .int 0, .int 0, .int 0, .int 0, .int 0, .int 0, .int 0, .int 0, .int 0]))] := hD
  refine lv_dup (pc := 29) hx hb dX3_init_29 rfl ?_
  refine gcI (pc := 30) (pre := [(h0, .inr (3, [.ref q1, .int 0, .int 0])), (q1, .inl (eO E, 6, .inr (.inr (.inr (.inr (fun _ => none))))))]) (post := []) (rest := [.ref q3, .int 0, .ref q1]) ⟨hx, hb, hml, hown, hts⟩ (kX1_init l E q3) (cwI 0 hts gX3_init_X1_init rfl rfl rfl (hts _ mm_X3_init_7) (hts _ mm_X3_init_8) (hts _ mm_X3_init_9) rfl qiX1_init ⟨Nat.le_of_ble_eq_true rfl, Nat.le_of_ble_eq_true rfl⟩) hK hAO hP hD hS hA rfl hl.1 rfl (Nat.le_of_ble_eq_true rfl) dX3_init_30 ⟨Nat.le_of_ble_eq_true rfl, Nat.le_of_ble_eq_true rfl⟩ (fun u4 H locs hu4 hP hD hS => ?_)
  rw [← hu4]
  have hP : va_P E.1 vwCl ((h0, .inr (3, [.ref q1, .int 0, .int 0])) :: ((q1, .inl (eO E, 6, .inr (.inr (.inr (.inr (fun _ => none)))))) :: (wB E u4 Bat0))) H := (by simpa only [List.cons_append, List.append_assoc, List.nil_append, List.append_nil] using hP)
  have hD : va_D A ((h0, .inr (3, [.ref q1, .int 0, .int 0])) :: ((q1, .inl (eO E, 6, .inr (.inr (.inr (.inr (fun _ => none)))))) :: (wB E u4 Bat0))) := (by simpa only [List.cons_append, List.append_assoc, List.nil_append, List.append_nil] using hD)
  refine va_astq (pc := 33) hx hb hK.1 hP hD hS 1 3 2 1 rfl rfl rfl rfl (g_in (by decide +kernel)) dX3_init_33 (fun H locs hP hD hS => ?_)
  have hP : va_P E.1 vwCl ((h0, .inr (3, [.ref q1, .int 0, .int 0])) :: ((q1, .inl (eO E, 6, .inr (.inr (.inr (.inr (va_up (fun _ => none) 0 (some (u4 0)))))))) :: (wB E u4 Bat0))) H := hP
  have hD : va_D A ((h0, .inr (3, [.ref q1, .int 0, .int 0])) :: ((q1, .inl (eO E, 6, .inr (.inr (.inr (.inr (va_up (fun _ => none) 0 (some (u4 0)))))))) :: (wB E u4 Bat0))) := hD
  refine lv_iinc (v := 1) (lv' := [(1, .int 1), (0, .ref h0)]) (pc := 34) hx hb dX3_init_34 hl (k := 0) rfl rfl (by decide) rfl (fun ls hl => ?_)
  refine lv_goto (tgt := 15) (pc := 37) hx hb dX3_init_37 (by decide) ?_
  refine lv_iload_n (pc := 15) hx hb dX3_init_15 rfl (lv_at hl 0 rfl) ?_
  refine lv_bipush (v := 6) (pc := 16) hx hb dX3_init_16 rfl ?_
  refine lv_icmp_ge (tgt := 40) (pc := 18) hx hb dX3_init_18 (by decide) (fun c_5 => ?_) (fun c_5 => ?_)
  · exact absurd c_5 (by decide)
  refine lv_aload_n (pc := 21) hx hb dX3_init_21 rfl (lv_at hl 1 rfl) ?_
  refine g_get (v := .ref q1) (pc := 22) hx hb hts ii_X3_init_X3 hown hK.1 hP 0 rfl rfl 0 (by decide) ⟨rfl, rfl, rfl⟩ mm_X3_init_5 rfl dX3_init_22 ?_
  refine lv_iload_n (pc := 25) hx hb dX3_init_25 rfl (lv_at hl 0 rfl) ?_
  refine va_new (ci := 1) (fs := [.null, .null, .int 0, .int 0, .int 0, .int 0, .int 0, .int 0, .int 0, .int 0, .int 0, .int 0, .int 0, .int 0, .int 0]) (C := RX1) (T := TX1) (N := 15) (pc := 26) hx hb hts ii_X3_init_X1 tyX1 tyX1_ok hown (hts _ mm_X3_init_4) (hts _ mm_X3_init_6) (hts _ mm_X3_init_7) hK.1 hP hD hS hA rfl (fun j hj => by rcases (show j = 0 ∨ j = 1 ∨ j = 2 ∨ j = 3 ∨ j = 4 ∨ j = 5 ∨ j = 6 ∨ j = 7 ∨ j = 8 ∨ j = 9 ∨ j = 10 ∨ j = 11 ∨ j = 12 ∨ j = 13 ∨ j = 14 by omega) with rfl | rfl | rfl | rfl | rfl | rfl | rfl | rfl | rfl | rfl | rfl | rfl | rfl | rfl | rfl <;> rfl) (Nat.le_of_ble_eq_true rfl) (Nat.le_of_ble_eq_true rfl) dX3_init_26 (fun q6 H hP hD hS => ?_)
  have hP : va_P E.1 vwCl ((h0, .inr (3, [.ref q1, .int 0, .int 0])) :: ((q1, .inl (eO E, 6, .inr (.inr (.inr (.inr (va_up (fun _ => none) 0 (some (u4 0)))))))) :: ((wB E u4 Bat0) ++ ((q6, .inr (1, [.null, .null, .int 0, .int 0, .int 0, .int 0, .int 0, .int 0, .int 0, .int 0, .int 0, .int 0, .int 0, .int 0, .int 0])) :: [])))) H := (by simpa only [List.cons_append, List.append_assoc, List.nil_append, List.append_nil] using hP)
  have hD : va_D A ((h0, .inr (3, [.ref q1, .int 0, .int 0])) :: ((q1, .inl (eO E, 6, .inr (.inr (.inr (.inr (va_up (fun _ => none) 0 (some (u4 0)))))))) :: ((wB E u4 Bat0) ++ ((q6, .inr (1, [.null, .null, .int 0, .int 0, .int 0, .int 0, .int 0, .int 0, .int 0, .int 0, .int 0, .int 0, .int 0, .int 0, .int 0])) :: [])))) := (by simpa only [List.cons_append, List.append_assoc, List.nil_append, List.append_nil] using hD)
  refine lv_dup (pc := 29) hx hb dX3_init_29 rfl ?_
  refine gcI (pc := 30) (pre := ((h0, .inr (3, [.ref q1, .int 0, .int 0])) :: ((q1, .inl (eO E, 6, .inr (.inr (.inr (.inr (va_up (fun _ => none) 0 (some (u4 0)))))))) :: (wB E u4 Bat0)))) (post := []) (rest := [.ref q6, .int 1, .ref q1]) ⟨hx, hb, hml, hown, hts⟩ (kX1_init l E q6) (cwI 0 hts gX3_init_X1_init rfl rfl rfl (hts _ mm_X3_init_7) (hts _ mm_X3_init_8) (hts _ mm_X3_init_9) rfl qiX1_init ⟨Nat.le_of_ble_eq_true rfl, Nat.le_of_ble_eq_true rfl⟩) hK hAO hP hD hS hA (by simp only [List.cons_append, List.append_assoc, List.nil_append, List.append_nil]) hl.1 rfl (Nat.le_of_ble_eq_true rfl) dX3_init_30 ⟨Nat.le_of_ble_eq_true rfl, Nat.le_of_ble_eq_true rfl⟩ (fun u7 H locs hu7 hP hD hS => ?_)
  rw [← hu7]
  have hP : va_P E.1 vwCl ((h0, .inr (3, [.ref q1, .int 0, .int 0])) :: ((q1, .inl (eO E, 6, .inr (.inr (.inr (.inr (va_up (fun _ => none) 0 (some (u4 0)))))))) :: ((wB E u4 Bat0) ++ (wB E u7 Bat0)))) H := (by simpa only [List.cons_append, List.append_assoc, List.nil_append, List.append_nil] using hP)
  have hD : va_D A ((h0, .inr (3, [.ref q1, .int 0, .int 0])) :: ((q1, .inl (eO E, 6, .inr (.inr (.inr (.inr (va_up (fun _ => none) 0 (some (u4 0)))))))) :: ((wB E u4 Bat0) ++ (wB E u7 Bat0)))) := (by simpa only [List.cons_append, List.append_assoc, List.nil_append, List.append_nil] using hD)
  refine va_astq (pc := 33) hx hb hK.1 hP hD hS 1 3 8 1 rfl rfl rfl rfl (g_in (by decide +kernel)) dX3_init_33 (fun H locs hP hD hS => ?_)
  have hP : va_P E.1 vwCl ((h0, .inr (3, [.ref q1, .int 0, .int 0])) :: ((q1, .inl (eO E, 6, .inr (.inr (.inr (.inr (va_up (va_up (fun _ => none) 0 (some (u4 0))) 1 (some (u7 0)))))))) :: ((wB E u4 Bat0) ++ (wB E u7 Bat0)))) H := hP
  have hD : va_D A ((h0, .inr (3, [.ref q1, .int 0, .int 0])) :: ((q1, .inl (eO E, 6, .inr (.inr (.inr (.inr (va_up (va_up (fun _ => none) 0 (some (u4 0))) 1 (some (u7 0)))))))) :: ((wB E u4 Bat0) ++ (wB E u7 Bat0)))) := hD
  refine lv_iinc (v := 2) (lv' := [(1, .int 2), (0, .ref h0)]) (pc := 34) hx hb dX3_init_34 hl (k := 0) rfl rfl (by decide) rfl (fun ls hl => ?_)
  refine lv_goto (tgt := 15) (pc := 37) hx hb dX3_init_37 (by decide) ?_
  refine lv_iload_n (pc := 15) hx hb dX3_init_15 rfl (lv_at hl 0 rfl) ?_
  refine lv_bipush (v := 6) (pc := 16) hx hb dX3_init_16 rfl ?_
  refine lv_icmp_ge (tgt := 40) (pc := 18) hx hb dX3_init_18 (by decide) (fun c_8 => ?_) (fun c_8 => ?_)
  · exact absurd c_8 (by decide)
  refine lv_aload_n (pc := 21) hx hb dX3_init_21 rfl (lv_at hl 1 rfl) ?_
  refine g_get (v := .ref q1) (pc := 22) hx hb hts ii_X3_init_X3 hown hK.1 hP 0 rfl rfl 0 (by decide) ⟨rfl, rfl, rfl⟩ mm_X3_init_5 rfl dX3_init_22 ?_
  refine lv_iload_n (pc := 25) hx hb dX3_init_25 rfl (lv_at hl 0 rfl) ?_
  refine va_new (ci := 1) (fs := [.null, .null, .int 0, .int 0, .int 0, .int 0, .int 0, .int 0, .int 0, .int 0, .int 0, .int 0, .int 0, .int 0, .int 0]) (C := RX1) (T := TX1) (N := 15) (pc := 26) hx hb hts ii_X3_init_X1 tyX1 tyX1_ok hown (hts _ mm_X3_init_4) (hts _ mm_X3_init_6) (hts _ mm_X3_init_7) hK.1 hP hD hS hA rfl (fun j hj => by rcases (show j = 0 ∨ j = 1 ∨ j = 2 ∨ j = 3 ∨ j = 4 ∨ j = 5 ∨ j = 6 ∨ j = 7 ∨ j = 8 ∨ j = 9 ∨ j = 10 ∨ j = 11 ∨ j = 12 ∨ j = 13 ∨ j = 14 by omega) with rfl | rfl | rfl | rfl | rfl | rfl | rfl | rfl | rfl | rfl | rfl | rfl | rfl | rfl | rfl <;> rfl) (Nat.le_of_ble_eq_true rfl) (Nat.le_of_ble_eq_true rfl) dX3_init_26 (fun q9 H hP hD hS => ?_)
  have hP : va_P E.1 vwCl ((h0, .inr (3, [.ref q1, .int 0, .int 0])) :: ((q1, .inl (eO E, 6, .inr (.inr (.inr (.inr (va_up (va_up (fun _ => none) 0 (some (u4 0))) 1 (some (u7 0)))))))) :: ((wB E u4 Bat0) ++ ((wB E u7 Bat0) ++ ((q9, .inr (1, [.null, .null, .int 0, .int 0, .int 0, .int 0, .int 0, .int 0, .int 0, .int 0, .int 0, .int 0, .int 0, .int 0, .int 0])) :: []))))) H := (by simpa only [List.cons_append, List.append_assoc, List.nil_append, List.append_nil] using hP)
  have hD : va_D A ((h0, .inr (3, [.ref q1, .int 0, .int 0])) :: ((q1, .inl (eO E, 6, .inr (.inr (.inr (.inr (va_up (va_up (fun _ => none) 0 (some (u4 0))) 1 (some (u7 0)))))))) :: ((wB E u4 Bat0) ++ ((wB E u7 Bat0) ++ ((q9, .inr (1, [.null, .null, .int 0, .int 0, .int 0, .int 0, .int 0, .int 0, .int 0, .int 0, .int 0, .int 0, .int 0, .int 0, .int 0])) :: []))))) := (by simpa only [List.cons_append, List.append_assoc, List.nil_append, List.append_nil] using hD)
  refine lv_dup (pc := 29) hx hb dX3_init_29 rfl ?_
  refine gcI (pc := 30) (pre := ((h0, .inr (3, [.ref q1, .int 0, .int 0])) :: ((q1, .inl (eO E, 6, .inr (.inr (.inr (.inr (va_up (va_up (fun _ => none) 0 (some (u4 0))) 1 (some (u7 0)))))))) :: ((wB E u4 Bat0) ++ (wB E u7 Bat0))))) (post := []) (rest := [.ref q9, .int 2, .ref q1]) ⟨hx, hb, hml, hown, hts⟩ (kX1_init l E q9) (cwI 0 hts gX3_init_X1_init rfl rfl rfl (hts _ mm_X3_init_7) (hts _ mm_X3_init_8) (hts _ mm_X3_init_9) rfl qiX1_init ⟨Nat.le_of_ble_eq_true rfl, Nat.le_of_ble_eq_true rfl⟩) hK hAO hP hD hS hA (by simp only [List.cons_append, List.append_assoc, List.nil_append, List.append_nil]) hl.1 rfl (Nat.le_of_ble_eq_true rfl) dX3_init_30 ⟨Nat.le_of_ble_eq_true rfl, Nat.le_of_ble_eq_true rfl⟩ (fun u10 H locs hu10 hP hD hS => ?_)
  rw [← hu10]
  have hP : va_P E.1 vwCl ((h0, .inr (3, [.ref q1, .int 0, .int 0])) :: ((q1, .inl (eO E, 6, .inr (.inr (.inr (.inr (va_up (va_up (fun _ => none) 0 (some (u4 0))) 1 (some (u7 0)))))))) :: ((wB E u4 Bat0) ++ ((wB E u7 Bat0) ++ (wB E u10 Bat0))))) H := (by simpa only [List.cons_append, List.append_assoc, List.nil_append, List.append_nil] using hP)
  have hD : va_D A ((h0, .inr (3, [.ref q1, .int 0, .int 0])) :: ((q1, .inl (eO E, 6, .inr (.inr (.inr (.inr (va_up (va_up (fun _ => none) 0 (some (u4 0))) 1 (some (u7 0)))))))) :: ((wB E u4 Bat0) ++ ((wB E u7 Bat0) ++ (wB E u10 Bat0))))) := (by simpa only [List.cons_append, List.append_assoc, List.nil_append, List.append_nil] using hD)
  refine va_astq (pc := 33) hx hb hK.1 hP hD hS 1 3 14 1 rfl rfl rfl rfl (g_in (by decide +kernel)) dX3_init_33 (fun H locs hP hD hS => ?_)
  have hP : va_P E.1 vwCl ((h0, .inr (3, [.ref q1, .int 0, .int 0])) :: ((q1, .inl (eO E, 6, .inr (.inr (.inr (.inr (va_up (va_up (va_up (fun _ => none) 0 (some (u4 0))) 1 (some (u7 0))) 2 (some (u10 0)))))))) :: ((wB E u4 Bat0) ++ ((wB E u7 Bat0) ++ (wB E u10 Bat0))))) H := hP
  have hD : va_D A ((h0, .inr (3, [.ref q1, .int 0, .int 0])) :: ((q1, .inl (eO E, 6, .inr (.inr (.inr (.inr (va_up (va_up (va_up (fun _ => none) 0 (some (u4 0))) 1 (some (u7 0))) 2 (some (u10 0)))))))) :: ((wB E u4 Bat0) ++ ((wB E u7 Bat0) ++ (wB E u10 Bat0))))) := hD
  refine lv_iinc (v := 3) (lv' := [(1, .int 3), (0, .ref h0)]) (pc := 34) hx hb dX3_init_34 hl (k := 0) rfl rfl (by decide) rfl (fun ls hl => ?_)
  refine lv_goto (tgt := 15) (pc := 37) hx hb dX3_init_37 (by decide) ?_
  refine lv_iload_n (pc := 15) hx hb dX3_init_15 rfl (lv_at hl 0 rfl) ?_
  refine lv_bipush (v := 6) (pc := 16) hx hb dX3_init_16 rfl ?_
  refine lv_icmp_ge (tgt := 40) (pc := 18) hx hb dX3_init_18 (by decide) (fun c_11 => ?_) (fun c_11 => ?_)
  · exact absurd c_11 (by decide)
  refine lv_aload_n (pc := 21) hx hb dX3_init_21 rfl (lv_at hl 1 rfl) ?_
  refine g_get (v := .ref q1) (pc := 22) hx hb hts ii_X3_init_X3 hown hK.1 hP 0 rfl rfl 0 (by decide) ⟨rfl, rfl, rfl⟩ mm_X3_init_5 rfl dX3_init_22 ?_
  refine lv_iload_n (pc := 25) hx hb dX3_init_25 rfl (lv_at hl 0 rfl) ?_
  refine va_new (ci := 1) (fs := [.null, .null, .int 0, .int 0, .int 0, .int 0, .int 0, .int 0, .int 0, .int 0, .int 0, .int 0, .int 0, .int 0, .int 0]) (C := RX1) (T := TX1) (N := 15) (pc := 26) hx hb hts ii_X3_init_X1 tyX1 tyX1_ok hown (hts _ mm_X3_init_4) (hts _ mm_X3_init_6) (hts _ mm_X3_init_7) hK.1 hP hD hS hA rfl (fun j hj => by rcases (show j = 0 ∨ j = 1 ∨ j = 2 ∨ j = 3 ∨ j = 4 ∨ j = 5 ∨ j = 6 ∨ j = 7 ∨ j = 8 ∨ j = 9 ∨ j = 10 ∨ j = 11 ∨ j = 12 ∨ j = 13 ∨ j = 14 by omega) with rfl | rfl | rfl | rfl | rfl | rfl | rfl | rfl | rfl | rfl | rfl | rfl | rfl | rfl | rfl <;> rfl) (Nat.le_of_ble_eq_true rfl) (Nat.le_of_ble_eq_true rfl) dX3_init_26 (fun q12 H hP hD hS => ?_)
  have hP : va_P E.1 vwCl ((h0, .inr (3, [.ref q1, .int 0, .int 0])) :: ((q1, .inl (eO E, 6, .inr (.inr (.inr (.inr (va_up (va_up (va_up (fun _ => none) 0 (some (u4 0))) 1 (some (u7 0))) 2 (some (u10 0)))))))) :: ((wB E u4 Bat0) ++ ((wB E u7 Bat0) ++ ((wB E u10 Bat0) ++ ((q12, .inr (1, [.null, .null, .int 0, .int 0, .int 0, .int 0, .int 0, .int 0, .int 0, .int 0, .int 0, .int 0, .int 0, .int 0, .int 0])) :: [])))))) H := (by simpa only [List.cons_append, List.append_assoc, List.nil_append, List.append_nil] using hP)
  have hD : va_D A ((h0, .inr (3, [.ref q1, .int 0, .int 0])) :: ((q1, .inl (eO E, 6, .inr (.inr (.inr (.inr (va_up (va_up (va_up (fun _ => none) 0 (some (u4 0))) 1 (some (u7 0))) 2 (some (u10 0)))))))) :: ((wB E u4 Bat0) ++ ((wB E u7 Bat0) ++ ((wB E u10 Bat0) ++ ((q12, .inr (1, [.null, .null, .int 0, .int 0, .int 0, .int 0, .int 0, .int 0, .int 0, .int 0, .int 0, .int 0, .int 0, .int 0, .int 0])) :: [])))))) := (by simpa only [List.cons_append, List.append_assoc, List.nil_append, List.append_nil] using hD)
  refine lv_dup (pc := 29) hx hb dX3_init_29 rfl ?_
  refine gcI (pc := 30) (pre := ((h0, .inr (3, [.ref q1, .int 0, .int 0])) :: ((q1, .inl (eO E, 6, .inr (.inr (.inr (.inr (va_up (va_up (va_up (fun _ => none) 0 (some (u4 0))) 1 (some (u7 0))) 2 (some (u10 0)))))))) :: ((wB E u4 Bat0) ++ ((wB E u7 Bat0) ++ (wB E u10 Bat0)))))) (post := []) (rest := [.ref q12, .int 3, .ref q1]) ⟨hx, hb, hml, hown, hts⟩ (kX1_init l E q12) (cwI 0 hts gX3_init_X1_init rfl rfl rfl (hts _ mm_X3_init_7) (hts _ mm_X3_init_8) (hts _ mm_X3_init_9) rfl qiX1_init ⟨Nat.le_of_ble_eq_true rfl, Nat.le_of_ble_eq_true rfl⟩) hK hAO hP hD hS hA (by simp only [List.cons_append, List.append_assoc, List.nil_append, List.append_nil]) hl.1 rfl (Nat.le_of_ble_eq_true rfl) dX3_init_30 ⟨Nat.le_of_ble_eq_true rfl, Nat.le_of_ble_eq_true rfl⟩ (fun u13 H locs hu13 hP hD hS => ?_)
  rw [← hu13]
  have hP : va_P E.1 vwCl ((h0, .inr (3, [.ref q1, .int 0, .int 0])) :: ((q1, .inl (eO E, 6, .inr (.inr (.inr (.inr (va_up (va_up (va_up (fun _ => none) 0 (some (u4 0))) 1 (some (u7 0))) 2 (some (u10 0)))))))) :: ((wB E u4 Bat0) ++ ((wB E u7 Bat0) ++ ((wB E u10 Bat0) ++ (wB E u13 Bat0)))))) H := (by simpa only [List.cons_append, List.append_assoc, List.nil_append, List.append_nil] using hP)
  have hD : va_D A ((h0, .inr (3, [.ref q1, .int 0, .int 0])) :: ((q1, .inl (eO E, 6, .inr (.inr (.inr (.inr (va_up (va_up (va_up (fun _ => none) 0 (some (u4 0))) 1 (some (u7 0))) 2 (some (u10 0)))))))) :: ((wB E u4 Bat0) ++ ((wB E u7 Bat0) ++ ((wB E u10 Bat0) ++ (wB E u13 Bat0)))))) := (by simpa only [List.cons_append, List.append_assoc, List.nil_append, List.append_nil] using hD)
  refine va_astq (pc := 33) hx hb hK.1 hP hD hS 1 3 20 1 rfl rfl rfl rfl (g_in (by decide +kernel)) dX3_init_33 (fun H locs hP hD hS => ?_)
  have hP : va_P E.1 vwCl ((h0, .inr (3, [.ref q1, .int 0, .int 0])) :: ((q1, .inl (eO E, 6, .inr (.inr (.inr (.inr (va_up (va_up (va_up (va_up (fun _ => none) 0 (some (u4 0))) 1 (some (u7 0))) 2 (some (u10 0))) 3 (some (u13 0)))))))) :: ((wB E u4 Bat0) ++ ((wB E u7 Bat0) ++ ((wB E u10 Bat0) ++ (wB E u13 Bat0)))))) H := hP
  have hD : va_D A ((h0, .inr (3, [.ref q1, .int 0, .int 0])) :: ((q1, .inl (eO E, 6, .inr (.inr (.inr (.inr (va_up (va_up (va_up (va_up (fun _ => none) 0 (some (u4 0))) 1 (some (u7 0))) 2 (some (u10 0))) 3 (some (u13 0)))))))) :: ((wB E u4 Bat0) ++ ((wB E u7 Bat0) ++ ((wB E u10 Bat0) ++ (wB E u13 Bat0)))))) := hD
  refine lv_iinc (v := 4) (lv' := [(1, .int 4), (0, .ref h0)]) (pc := 34) hx hb dX3_init_34 hl (k := 0) rfl rfl (by decide) rfl (fun ls hl => ?_)
  refine lv_goto (tgt := 15) (pc := 37) hx hb dX3_init_37 (by decide) ?_
  refine lv_iload_n (pc := 15) hx hb dX3_init_15 rfl (lv_at hl 0 rfl) ?_
  refine lv_bipush (v := 6) (pc := 16) hx hb dX3_init_16 rfl ?_
  refine lv_icmp_ge (tgt := 40) (pc := 18) hx hb dX3_init_18 (by decide) (fun c_14 => ?_) (fun c_14 => ?_)
  · exact absurd c_14 (by decide)
  refine lv_aload_n (pc := 21) hx hb dX3_init_21 rfl (lv_at hl 1 rfl) ?_
  refine g_get (v := .ref q1) (pc := 22) hx hb hts ii_X3_init_X3 hown hK.1 hP 0 rfl rfl 0 (by decide) ⟨rfl, rfl, rfl⟩ mm_X3_init_5 rfl dX3_init_22 ?_
  refine lv_iload_n (pc := 25) hx hb dX3_init_25 rfl (lv_at hl 0 rfl) ?_
  refine va_new (ci := 1) (fs := [.null, .null, .int 0, .int 0, .int 0, .int 0, .int 0, .int 0, .int 0, .int 0, .int 0, .int 0, .int 0, .int 0, .int 0]) (C := RX1) (T := TX1) (N := 15) (pc := 26) hx hb hts ii_X3_init_X1 tyX1 tyX1_ok hown (hts _ mm_X3_init_4) (hts _ mm_X3_init_6) (hts _ mm_X3_init_7) hK.1 hP hD hS hA rfl (fun j hj => by rcases (show j = 0 ∨ j = 1 ∨ j = 2 ∨ j = 3 ∨ j = 4 ∨ j = 5 ∨ j = 6 ∨ j = 7 ∨ j = 8 ∨ j = 9 ∨ j = 10 ∨ j = 11 ∨ j = 12 ∨ j = 13 ∨ j = 14 by omega) with rfl | rfl | rfl | rfl | rfl | rfl | rfl | rfl | rfl | rfl | rfl | rfl | rfl | rfl | rfl <;> rfl) (Nat.le_of_ble_eq_true rfl) (Nat.le_of_ble_eq_true rfl) dX3_init_26 (fun q15 H hP hD hS => ?_)
  have hP : va_P E.1 vwCl ((h0, .inr (3, [.ref q1, .int 0, .int 0])) :: ((q1, .inl (eO E, 6, .inr (.inr (.inr (.inr (va_up (va_up (va_up (va_up (fun _ => none) 0 (some (u4 0))) 1 (some (u7 0))) 2 (some (u10 0))) 3 (some (u13 0)))))))) :: ((wB E u4 Bat0) ++ ((wB E u7 Bat0) ++ ((wB E u10 Bat0) ++ ((wB E u13 Bat0) ++ ((q15, .inr (1, [.null, .null, .int 0, .int 0, .int 0, .int 0, .int 0, .int 0, .int 0, .int 0, .int 0, .int 0, .int 0, .int 0, .int 0])) :: []))))))) H := (by simpa only [List.cons_append, List.append_assoc, List.nil_append, List.append_nil] using hP)
  have hD : va_D A ((h0, .inr (3, [.ref q1, .int 0, .int 0])) :: ((q1, .inl (eO E, 6, .inr (.inr (.inr (.inr (va_up (va_up (va_up (va_up (fun _ => none) 0 (some (u4 0))) 1 (some (u7 0))) 2 (some (u10 0))) 3 (some (u13 0)))))))) :: ((wB E u4 Bat0) ++ ((wB E u7 Bat0) ++ ((wB E u10 Bat0) ++ ((wB E u13 Bat0) ++ ((q15, .inr (1, [.null, .null, .int 0, .int 0, .int 0, .int 0, .int 0, .int 0, .int 0, .int 0, .int 0, .int 0, .int 0, .int 0, .int 0])) :: []))))))) := (by simpa only [List.cons_append, List.append_assoc, List.nil_append, List.append_nil] using hD)
  refine lv_dup (pc := 29) hx hb dX3_init_29 rfl ?_
  refine gcI (pc := 30) (pre := ((h0, .inr (3, [.ref q1, .int 0, .int 0])) :: ((q1, .inl (eO E, 6, .inr (.inr (.inr (.inr (va_up (va_up (va_up (va_up (fun _ => none) 0 (some (u4 0))) 1 (some (u7 0))) 2 (some (u10 0))) 3 (some (u13 0)))))))) :: ((wB E u4 Bat0) ++ ((wB E u7 Bat0) ++ ((wB E u10 Bat0) ++ (wB E u13 Bat0))))))) (post := []) (rest := [.ref q15, .int 4, .ref q1]) ⟨hx, hb, hml, hown, hts⟩ (kX1_init l E q15) (cwI 0 hts gX3_init_X1_init rfl rfl rfl (hts _ mm_X3_init_7) (hts _ mm_X3_init_8) (hts _ mm_X3_init_9) rfl qiX1_init ⟨Nat.le_of_ble_eq_true rfl, Nat.le_of_ble_eq_true rfl⟩) hK hAO hP hD hS hA (by simp only [List.cons_append, List.append_assoc, List.nil_append, List.append_nil]) hl.1 rfl (Nat.le_of_ble_eq_true rfl) dX3_init_30 ⟨Nat.le_of_ble_eq_true rfl, Nat.le_of_ble_eq_true rfl⟩ (fun u16 H locs hu16 hP hD hS => ?_)
  rw [← hu16]
  have hP : va_P E.1 vwCl ((h0, .inr (3, [.ref q1, .int 0, .int 0])) :: ((q1, .inl (eO E, 6, .inr (.inr (.inr (.inr (va_up (va_up (va_up (va_up (fun _ => none) 0 (some (u4 0))) 1 (some (u7 0))) 2 (some (u10 0))) 3 (some (u13 0)))))))) :: ((wB E u4 Bat0) ++ ((wB E u7 Bat0) ++ ((wB E u10 Bat0) ++ ((wB E u13 Bat0) ++ (wB E u16 Bat0))))))) H := (by simpa only [List.cons_append, List.append_assoc, List.nil_append, List.append_nil] using hP)
  have hD : va_D A ((h0, .inr (3, [.ref q1, .int 0, .int 0])) :: ((q1, .inl (eO E, 6, .inr (.inr (.inr (.inr (va_up (va_up (va_up (va_up (fun _ => none) 0 (some (u4 0))) 1 (some (u7 0))) 2 (some (u10 0))) 3 (some (u13 0)))))))) :: ((wB E u4 Bat0) ++ ((wB E u7 Bat0) ++ ((wB E u10 Bat0) ++ ((wB E u13 Bat0) ++ (wB E u16 Bat0))))))) := (by simpa only [List.cons_append, List.append_assoc, List.nil_append, List.append_nil] using hD)
  refine va_astq (pc := 33) hx hb hK.1 hP hD hS 1 3 26 1 rfl rfl rfl rfl (g_in (by decide +kernel)) dX3_init_33 (fun H locs hP hD hS => ?_)
  have hP : va_P E.1 vwCl ((h0, .inr (3, [.ref q1, .int 0, .int 0])) :: ((q1, .inl (eO E, 6, .inr (.inr (.inr (.inr (va_up (va_up (va_up (va_up (va_up (fun _ => none) 0 (some (u4 0))) 1 (some (u7 0))) 2 (some (u10 0))) 3 (some (u13 0))) 4 (some (u16 0)))))))) :: ((wB E u4 Bat0) ++ ((wB E u7 Bat0) ++ ((wB E u10 Bat0) ++ ((wB E u13 Bat0) ++ (wB E u16 Bat0))))))) H := hP
  have hD : va_D A ((h0, .inr (3, [.ref q1, .int 0, .int 0])) :: ((q1, .inl (eO E, 6, .inr (.inr (.inr (.inr (va_up (va_up (va_up (va_up (va_up (fun _ => none) 0 (some (u4 0))) 1 (some (u7 0))) 2 (some (u10 0))) 3 (some (u13 0))) 4 (some (u16 0)))))))) :: ((wB E u4 Bat0) ++ ((wB E u7 Bat0) ++ ((wB E u10 Bat0) ++ ((wB E u13 Bat0) ++ (wB E u16 Bat0))))))) := hD
  refine lv_iinc (v := 5) (lv' := [(1, .int 5), (0, .ref h0)]) (pc := 34) hx hb dX3_init_34 hl (k := 0) rfl rfl (by decide) rfl (fun ls hl => ?_)
  refine lv_goto (tgt := 15) (pc := 37) hx hb dX3_init_37 (by decide) ?_
  refine lv_iload_n (pc := 15) hx hb dX3_init_15 rfl (lv_at hl 0 rfl) ?_
  refine lv_bipush (v := 6) (pc := 16) hx hb dX3_init_16 rfl ?_
  refine lv_icmp_ge (tgt := 40) (pc := 18) hx hb dX3_init_18 (by decide) (fun c_17 => ?_) (fun c_17 => ?_)
  · exact absurd c_17 (by decide)
  refine lv_aload_n (pc := 21) hx hb dX3_init_21 rfl (lv_at hl 1 rfl) ?_
  refine g_get (v := .ref q1) (pc := 22) hx hb hts ii_X3_init_X3 hown hK.1 hP 0 rfl rfl 0 (by decide) ⟨rfl, rfl, rfl⟩ mm_X3_init_5 rfl dX3_init_22 ?_
  refine lv_iload_n (pc := 25) hx hb dX3_init_25 rfl (lv_at hl 0 rfl) ?_
  refine va_new (ci := 1) (fs := [.null, .null, .int 0, .int 0, .int 0, .int 0, .int 0, .int 0, .int 0, .int 0, .int 0, .int 0, .int 0, .int 0, .int 0]) (C := RX1) (T := TX1) (N := 15) (pc := 26) hx hb hts ii_X3_init_X1 tyX1 tyX1_ok hown (hts _ mm_X3_init_4) (hts _ mm_X3_init_6) (hts _ mm_X3_init_7) hK.1 hP hD hS hA rfl (fun j hj => by rcases (show j = 0 ∨ j = 1 ∨ j = 2 ∨ j = 3 ∨ j = 4 ∨ j = 5 ∨ j = 6 ∨ j = 7 ∨ j = 8 ∨ j = 9 ∨ j = 10 ∨ j = 11 ∨ j = 12 ∨ j = 13 ∨ j = 14 by omega) with rfl | rfl | rfl | rfl | rfl | rfl | rfl | rfl | rfl | rfl | rfl | rfl | rfl | rfl | rfl <;> rfl) (Nat.le_of_ble_eq_true rfl) (Nat.le_of_ble_eq_true rfl) dX3_init_26 (fun q18 H hP hD hS => ?_)
  have hP : va_P E.1 vwCl ((h0, .inr (3, [.ref q1, .int 0, .int 0])) :: ((q1, .inl (eO E, 6, .inr (.inr (.inr (.inr (va_up (va_up (va_up (va_up (va_up (fun _ => none) 0 (some (u4 0))) 1 (some (u7 0))) 2 (some (u10 0))) 3 (some (u13 0))) 4 (some (u16 0)))))))) :: ((wB E u4 Bat0) ++ ((wB E u7 Bat0) ++ ((wB E u10 Bat0) ++ ((wB E u13 Bat0) ++ ((wB E u16 Bat0) ++ ((q18, .inr (1, [.null, .null, .int 0, .int 0, .int 0, .int 0, .int 0, .int 0, .int 0, .int 0, .int 0, .int 0, .int 0, .int 0, .int 0])) :: [])))))))) H := (by simpa only [List.cons_append, List.append_assoc, List.nil_append, List.append_nil] using hP)
  have hD : va_D A ((h0, .inr (3, [.ref q1, .int 0, .int 0])) :: ((q1, .inl (eO E, 6, .inr (.inr (.inr (.inr (va_up (va_up (va_up (va_up (va_up (fun _ => none) 0 (some (u4 0))) 1 (some (u7 0))) 2 (some (u10 0))) 3 (some (u13 0))) 4 (some (u16 0)))))))) :: ((wB E u4 Bat0) ++ ((wB E u7 Bat0) ++ ((wB E u10 Bat0) ++ ((wB E u13 Bat0) ++ ((wB E u16 Bat0) ++ ((q18, .inr (1, [.null, .null, .int 0, .int 0, .int 0, .int 0, .int 0, .int 0, .int 0, .int 0, .int 0, .int 0, .int 0, .int 0, .int 0])) :: [])))))))) := (by simpa only [List.cons_append, List.append_assoc, List.nil_append, List.append_nil] using hD)
  refine lv_dup (pc := 29) hx hb dX3_init_29 rfl ?_
  refine gcI (pc := 30) (pre := ((h0, .inr (3, [.ref q1, .int 0, .int 0])) :: ((q1, .inl (eO E, 6, .inr (.inr (.inr (.inr (va_up (va_up (va_up (va_up (va_up (fun _ => none) 0 (some (u4 0))) 1 (some (u7 0))) 2 (some (u10 0))) 3 (some (u13 0))) 4 (some (u16 0)))))))) :: ((wB E u4 Bat0) ++ ((wB E u7 Bat0) ++ ((wB E u10 Bat0) ++ ((wB E u13 Bat0) ++ (wB E u16 Bat0)))))))) (post := []) (rest := [.ref q18, .int 5, .ref q1]) ⟨hx, hb, hml, hown, hts⟩ (kX1_init l E q18) (cwI 0 hts gX3_init_X1_init rfl rfl rfl (hts _ mm_X3_init_7) (hts _ mm_X3_init_8) (hts _ mm_X3_init_9) rfl qiX1_init ⟨Nat.le_of_ble_eq_true rfl, Nat.le_of_ble_eq_true rfl⟩) hK hAO hP hD hS hA (by simp only [List.cons_append, List.append_assoc, List.nil_append, List.append_nil]) hl.1 rfl (Nat.le_of_ble_eq_true rfl) dX3_init_30 ⟨Nat.le_of_ble_eq_true rfl, Nat.le_of_ble_eq_true rfl⟩ (fun u19 H locs hu19 hP hD hS => ?_)
  rw [← hu19]
  have hP : va_P E.1 vwCl ((h0, .inr (3, [.ref q1, .int 0, .int 0])) :: ((q1, .inl (eO E, 6, .inr (.inr (.inr (.inr (va_up (va_up (va_up (va_up (va_up (fun _ => none) 0 (some (u4 0))) 1 (some (u7 0))) 2 (some (u10 0))) 3 (some (u13 0))) 4 (some (u16 0)))))))) :: ((wB E u4 Bat0) ++ ((wB E u7 Bat0) ++ ((wB E u10 Bat0) ++ ((wB E u13 Bat0) ++ ((wB E u16 Bat0) ++ (wB E u19 Bat0)))))))) H := (by simpa only [List.cons_append, List.append_assoc, List.nil_append, List.append_nil] using hP)
  have hD : va_D A ((h0, .inr (3, [.ref q1, .int 0, .int 0])) :: ((q1, .inl (eO E, 6, .inr (.inr (.inr (.inr (va_up (va_up (va_up (va_up (va_up (fun _ => none) 0 (some (u4 0))) 1 (some (u7 0))) 2 (some (u10 0))) 3 (some (u13 0))) 4 (some (u16 0)))))))) :: ((wB E u4 Bat0) ++ ((wB E u7 Bat0) ++ ((wB E u10 Bat0) ++ ((wB E u13 Bat0) ++ ((wB E u16 Bat0) ++ (wB E u19 Bat0)))))))) := (by simpa only [List.cons_append, List.append_assoc, List.nil_append, List.append_nil] using hD)
  refine va_astq (pc := 33) hx hb hK.1 hP hD hS 1 3 32 1 rfl rfl rfl rfl (g_in (by decide +kernel)) dX3_init_33 (fun H locs hP hD hS => ?_)
  have hP : va_P E.1 vwCl ((h0, .inr (3, [.ref q1, .int 0, .int 0])) :: ((q1, .inl (eO E, 6, .inr (.inr (.inr (.inr (va_up (va_up (va_up (va_up (va_up (va_up (fun _ => none) 0 (some (u4 0))) 1 (some (u7 0))) 2 (some (u10 0))) 3 (some (u13 0))) 4 (some (u16 0))) 5 (some (u19 0)))))))) :: ((wB E u4 Bat0) ++ ((wB E u7 Bat0) ++ ((wB E u10 Bat0) ++ ((wB E u13 Bat0) ++ ((wB E u16 Bat0) ++ (wB E u19 Bat0)))))))) H := hP
  have hD : va_D A ((h0, .inr (3, [.ref q1, .int 0, .int 0])) :: ((q1, .inl (eO E, 6, .inr (.inr (.inr (.inr (va_up (va_up (va_up (va_up (va_up (va_up (fun _ => none) 0 (some (u4 0))) 1 (some (u7 0))) 2 (some (u10 0))) 3 (some (u13 0))) 4 (some (u16 0))) 5 (some (u19 0)))))))) :: ((wB E u4 Bat0) ++ ((wB E u7 Bat0) ++ ((wB E u10 Bat0) ++ ((wB E u13 Bat0) ++ ((wB E u16 Bat0) ++ (wB E u19 Bat0)))))))) := hD
  refine lv_iinc (v := 6) (lv' := [(1, .int 6), (0, .ref h0)]) (pc := 34) hx hb dX3_init_34 hl (k := 0) rfl rfl (by decide) rfl (fun ls hl => ?_)
  refine lv_goto (tgt := 15) (pc := 37) hx hb dX3_init_37 (by decide) ?_
  refine lv_iload_n (pc := 15) hx hb dX3_init_15 rfl (lv_at hl 0 rfl) ?_
  refine lv_bipush (v := 6) (pc := 16) hx hb dX3_init_16 rfl ?_
  refine lv_icmp_ge (tgt := 40) (pc := 18) hx hb dX3_init_18 (by decide) (fun c_20 => ?_) (fun c_20 => ?_)
  rotate_left
  · exact absurd (by decide) c_20
  have hP := gP_cell (pre := [(h0, .inr (3, [.ref q1, .int 0, .int 0]))]) (a := q1) (cA := eO E) (y := (6, .inr (.inr (.inr (.inr (fun k => some ((fun k => if k = 0 then u4 else if k = 1 then u7 else if k = 2 then u10 else if k = 3 then u13 else if k = 4 then u16 else u19) k 0))))))) (by rw [vp_cell_q, vp_cell_q]; exact arrV_cg (fun k hk => by rcases (show k = 0 ∨ k = 1 ∨ k = 2 ∨ k = 3 ∨ k = 4 ∨ k = 5 by omega) with h | h | h | h | h | h <;> subst h <;> rfl)) hP
  have hD := gD_cell (pre := [(h0, .inr (3, [.ref q1, .int 0, .int 0]))]) (a := q1) (y := .inl (eO E, 6, .inr (.inr (.inr (.inr (fun k => some ((fun k => if k = 0 then u4 else if k = 1 then u7 else if k = 2 then u10 else if k = 3 then u13 else if k = 4 then u16 else u19) k 0))))))) hD
  exact hQ _ _ _ _ (q1, (fun k => if k = 0 then u4 else if k = 1 then u7 else if k = 2 then u10 else if k = 3 then u13 else if k = 4 then u16 else u19)) _ _ (Nat.le_of_ble_eq_true rfl) (Nat.le_of_ble_eq_true rfl) trivial hP hD hS dX3_init_40

/-- a new object of the class -/
def G0 : GS := (fun _ => 0, Bat0, 0, 0, fun _ => Bat0, Txt0)

abbrev rX5_init : Room := { frames := 4, cells := 49, slots := 768, locals := 74 }
theorem mm_X5_init_1 : Cond.methodLink RX5 1 objectInit ∈ wsX5_init := List.mem_of_getElem? (i := 1) rfl
theorem mm_X5_init_2 : Cond.instanceMethod objectInit ∈ wsX5_init := List.mem_of_getElem? (i := 2) rfl
theorem mm_X5_init_3 : Cond.code objectInit ⟨#[0xb1]⟩ 1 none ∈ wsX5_init := List.mem_of_getElem? (i := 3) rfl
theorem mm_X5_init_4 : Cond.classLink RX5 7 RX1 ∈ wsX5_init := List.mem_of_getElem? (i := 4) rfl
theorem mm_X5_init_5 : Cond.instantiable RX1 15 ∈ wsX5_init := List.mem_of_getElem? (i := 5) rfl
theorem mm_X5_init_6 : Cond.initialized RX1 ∈ wsX5_init := List.mem_of_getElem? (i := 6) rfl
theorem mm_X5_init_16 : Cond.methodLink RX5 9 yX1_init ∈ wsX5_init := List.mem_of_getElem? (i := 16) rfl
theorem mm_X5_init_17 : Cond.instanceMethod yX1_init ∈ wsX5_init := List.mem_of_getElem? (i := 17) rfl
theorem mm_X5_init_7 : Cond.fieldLink RX5 10 "GaugeBounds" "battery" "LGaugeBounds$Battery;" ∈ wsX5_init := List.mem_of_getElem? (i := 7) rfl
theorem mm_X5_init_8 : Cond.classLink RX5 16 RX3 ∈ wsX5_init := List.mem_of_getElem? (i := 8) rfl
theorem mm_X5_init_9 : Cond.instantiable RX3 3 ∈ wsX5_init := List.mem_of_getElem? (i := 9) rfl
theorem mm_X5_init_10 : Cond.initialized RX3 ∈ wsX5_init := List.mem_of_getElem? (i := 10) rfl
theorem mm_X5_init_50 : Cond.methodLink RX5 18 yX3_init ∈ wsX5_init := List.mem_of_getElem? (i := 50) rfl
theorem mm_X5_init_51 : Cond.instanceMethod yX3_init ∈ wsX5_init := List.mem_of_getElem? (i := 51) rfl
theorem mm_X5_init_11 : Cond.fieldLink RX5 19 "GaugeBounds" "states" "LGaugeBounds$States;" ∈ wsX5_init := List.mem_of_getElem? (i := 11) rfl
theorem mm_X5_init_12 : Cond.classLink RX5 23 RX4 ∈ wsX5_init := List.mem_of_getElem? (i := 12) rfl
theorem mm_X5_init_13 : Cond.instantiable RX4 8 ∈ wsX5_init := List.mem_of_getElem? (i := 13) rfl
theorem mm_X5_init_14 : Cond.initialized RX4 ∈ wsX5_init := List.mem_of_getElem? (i := 14) rfl
theorem mm_X5_init_57 : Cond.methodLink RX5 25 yX4_init ∈ wsX5_init := List.mem_of_getElem? (i := 57) rfl
theorem mm_X5_init_58 : Cond.instanceMethod yX4_init ∈ wsX5_init := List.mem_of_getElem? (i := 58) rfl
theorem mm_X5_init_15 : Cond.fieldLink RX5 26 "GaugeBounds" "text" "LGaugeBounds$Text;" ∈ wsX5_init := List.mem_of_getElem? (i := 15) rfl
theorem ii_X5_init_X1 : ∀ w ∈ wsX10, w ∈ wsX5_init := fun _ h => List.mem_cons_of_mem _ (List.mem_append_left _ (List.mem_append_left _ (List.mem_append_left _ (List.mem_append_left _ (List.mem_append_left _ (List.mem_append_right _ (h)))))))
theorem ii_X5_init_X5 : ∀ w ∈ wsX50, w ∈ wsX5_init := fun _ h => List.mem_cons_of_mem _ (List.mem_append_left _ (List.mem_append_left _ (List.mem_append_left _ (List.mem_append_left _ (List.mem_append_right _ (h))))))
theorem ii_X5_init_X3 : ∀ w ∈ wsX30, w ∈ wsX5_init := fun _ h => List.mem_cons_of_mem _ (List.mem_append_left _ (List.mem_append_left _ (List.mem_append_left _ (List.mem_append_right _ (h)))))
theorem ii_X5_init_X4 : ∀ w ∈ wsX40, w ∈ wsX5_init := fun _ h => List.mem_cons_of_mem _ (List.mem_append_left _ (List.mem_append_left _ (List.mem_append_right _ (h))))
theorem qiX5_init : yX5_init.cls ≠ "java/lang/invoke/MethodHandle" ∧ yX5_init.cls ≠ "java/lang/invoke/VarHandle" ∧ (parseMethodDescriptor yX5_init.desc).map (fun d => d.parameters.length) = some 0 := by decide +kernel
set_option maxHeartbeats 4000000 in
set_option maxRecDepth 100000 in
theorem kX5_init (l : Launch) (E : gEnv) (h0 : Nat) : gMn (σ := (Nat → Nat) × Nat × Nat × (Nat → Nat → Nat) × (Nat → Nat)) l E yX5_init wsX5_init rX5_init [.ref h0] [(h0, .inr (5, [.null, .null, .null, .int 0, .int 0, .int 0]))] (fun u => True) (fun u => wG E h0 u.1 u.2.1 u.2.2.1 u.2.2.2.1 u.2.2.2.2 G0) := by
  refine gMn_of (cc := cX5_init) (maxL := 1) (ret := none) (by decide) rfl rfl rfl (Nat.le_of_ble_eq_true rfl) ?_
  intro p e s m args below meth c A Q ls hB hAO hin hQ
  obtain ⟨hx, hb, hml, hown, hts, hK, hP, hD, hA, hS, hl⟩ := hB
  have hown : s.vm.findClass RX5 = some m.cls := hown
  have hP : va_P E.1 vwCl [(h0, .inr (5, [.null, .null, .null, .int 0, .int 0, .int 0]))] s.heap := hP
  have hD : va_D A [(h0, .inr (5, [.null, .null, .null, .int 0, .int 0, .int 0]))] := hD
  have hl : lv_has ls 1 [(0, .ref h0)] := hl
  refine lv_aload_n (pc := 0) hx hb dX5_init_0 rfl (lv_at hl 0 rfl) ?_
  refine W.objInit hx hb hown (hts _ mm_X5_init_1) (hts _ mm_X5_init_2) (hts _ mm_X5_init_3) rfl (hl.1.trans hml.symm) rfl dX5_init_1 (Nat.le_of_ble_eq_true rfl) (Nat.le_of_ble_eq_true rfl) ?_
  refine W.eq (g2 := F0 m 4 ls []) rfl ?_
  refine lv_aload_n (pc := 4) hx hb dX5_init_4 rfl (lv_at hl 0 rfl) ?_
  refine va_new (ci := 1) (fs := [.null, .null, .int 0, .int 0, .int 0, .int 0, .int 0, .int 0, .int 0, .int 0, .int 0, .int 0, .int 0, .int 0, .int 0]) (C := RX1) (T := TX1) (N := 15) (pc := 5) hx hb hts ii_X5_init_X1 tyX1 tyX1_ok hown (hts _ mm_X5_init_4) (hts _ mm_X5_init_5) (hts _ mm_X5_init_6) hK.1 hP hD hS hA rfl (fun j hj => by rcases (show j = 0 ∨ j = 1 ∨ j = 2 ∨ j = 3 ∨ j = 4 ∨ j = 5 ∨ j = 6 ∨ j = 7 ∨ j = 8 ∨ j = 9 ∨ j = 10 ∨ j = 11 ∨ j = 12 ∨ j = 13 ∨ j = 14 by omega) with rfl | rfl | rfl | rfl | rfl | rfl | rfl | rfl | rfl | rfl | rfl | rfl | rfl | rfl | rfl <;> rfl) (Nat.le_of_ble_eq_true rfl) (Nat.le_of_ble_eq_true rfl) dX5_init_5 (fun q1 H hP hD hS => ?_)
  have hP : va_P E.1 vwCl [(h0, .inr (5, [.null, .null, .null, .int 0, .int 0, .int 0])), (q1, .inr (1, [.null, .null, .int 0, .int 0, .int 0, .int 0, .int 0, .int 0, .int 0, .int 0, .int 0, .int 0, .int 0, .int 0, .int 0]))] H := hP
  have hD : va_D A [(h0, .inr (5, [.null, .null, .null, .int 0, .int 0, .int 0])), (q1, .inr (1, [.null, .null, .int 0, .int 0, .int 0, .int 0, .int 0, .int 0, .int 0, .int 0, .int 0, .int 0, .int 0, .int 0, .int 0]))] := hD
  refine lv_dup (pc := 8) hx hb dX5_init_8 rfl ?_
  refine gcI (pc := 9) (pre := [(h0, .inr (5, [.null, .null, .null, .int 0, .int 0, .int 0]))]) (post := []) (rest := [.ref q1, .ref h0]) ⟨hx, hb, hml, hown, hts⟩ (kX1_init l E q1) (cwI 0 hts gX5_init_X1_init rfl rfl rfl (hts _ mm_X5_init_6) (hts _ mm_X5_init_16) (hts _ mm_X5_init_17) rfl qiX1_init ⟨Nat.le_of_ble_eq_true rfl, Nat.le_of_ble_eq_true rfl⟩) hK hAO hP hD hS hA rfl hl.1 rfl (Nat.le_of_ble_eq_true rfl) dX5_init_9 ⟨Nat.le_of_ble_eq_true rfl, Nat.le_of_ble_eq_true rfl⟩ (fun u2 H locs hu2 hP hD hS => ?_)
  rw [← hu2]
  have hP : va_P E.1 vwCl ((h0, .inr (5, [.null, .null, .null, .int 0, .int 0, .int 0])) :: (wB E u2 Bat0)) H := (by simpa only [List.cons_append, List.append_assoc, List.nil_append, List.append_nil] using hP)
  have hD : va_D A ((h0, .inr (5, [.null, .null, .null, .int 0, .int 0, .int 0])) :: (wB E u2 Bat0)) := (by simpa only [List.cons_append, List.append_assoc, List.nil_append, List.append_nil] using hD)
  refine va_putF (D := E.1) (ci := 5) (v := .ref (u2 0)) (ty := tyX5 0) (C := RX5) (T := TX5) (N := 6) (pc := 12) hx hb hts ii_X5_init_X5 tyX5 tyX5_ok nmX5 hown hK.1 hP hD hS 0 rfl rfl 0 (by decide) (hts _ mm_X5_init_7) (fun _ h9 => h9) rfl hin rfl (by decide +kernel) rfl rfl (Nat.le_of_ble_eq_true rfl) dX5_init_12 (fun H locs hP hD hS => ?_)
  have hP : va_P E.1 vwCl ((h0, .inr (5, [.ref (u2 0), .null, .null, .int 0, .int 0, .int 0])) :: (wB E u2 Bat0)) H := hP
  have hD : va_D A ((h0, .inr (5, [.ref (u2 0), .null, .null, .int 0, .int 0, .int 0])) :: (wB E u2 Bat0)) := hD
  refine lv_aload_n (pc := 15) hx hb dX5_init_15 rfl (lv_at hl 0 rfl) ?_
  refine va_new (ci := 3) (fs := [.null, .int 0, .int 0]) (C := RX3) (T := TX3) (N := 3) (pc := 16) hx hb hts ii_X5_init_X3 tyX3 tyX3_ok hown (hts _ mm_X5_init_8) (hts _ mm_X5_init_9) (hts _ mm_X5_init_10) hK.1 hP hD hS hA rfl (fun j hj => by rcases (show j = 0 ∨ j = 1 ∨ j = 2 by omega) with rfl | rfl | rfl <;> rfl) (Nat.le_of_ble_eq_true rfl) (Nat.le_of_ble_eq_true rfl) dX5_init_16 (fun q3 H hP hD hS => ?_)
  have hP : va_P E.1 vwCl ((h0, .inr (5, [.ref (u2 0), .null, .null, .int 0, .int 0, .int 0])) :: ((wB E u2 Bat0) ++ ((q3, .inr (3, [.null, .int 0, .int 0])) :: []))) H := (by simpa only [List.cons_append, List.append_assoc, List.nil_append, List.append_nil] using hP)
  have hD : va_D A ((h0, .inr (5, [.ref (u2 0), .null, .null, .int 0, .int 0, .int 0])) :: ((wB E u2 Bat0) ++ ((q3, .inr (3, [.null, .int 0, .int 0])) :: []))) := (by simpa only [List.cons_append, List.append_assoc, List.nil_append, List.append_nil] using hD)
  refine lv_dup (pc := 19) hx hb dX5_init_19 rfl ?_
  refine gcI (pc := 20) (pre := ((h0, .inr (5, [.ref (u2 0), .null, .null, .int 0, .int 0, .int 0])) :: (wB E u2 Bat0))) (post := []) (rest := [.ref q3, .ref h0]) ⟨hx, hb, hml, hown, hts⟩ (kX3_init l E q3) (cwI 0 hts gX5_init_X3_init rfl rfl rfl (hts _ mm_X5_init_10) (hts _ mm_X5_init_50) (hts _ mm_X5_init_51) rfl qiX3_init ⟨Nat.le_of_ble_eq_true rfl, Nat.le_of_ble_eq_true rfl⟩) hK hAO hP hD hS hA (by simp only [List.cons_append, List.append_assoc, List.nil_append, List.append_nil]) hl.1 rfl (Nat.le_of_ble_eq_true rfl) dX5_init_20 ⟨Nat.le_of_ble_eq_true rfl, Nat.le_of_ble_eq_true rfl⟩ (fun u4 H locs hu4 hP hD hS => ?_)
  have hP : va_P E.1 vwCl ((h0, .inr (5, [.ref (u2 0), .null, .null, .int 0, .int 0, .int 0])) :: ((wB E u2 Bat0) ++ ((q3, .inr (3, [.ref u4.1, .int (nI 0), .int 0])) :: ((u4.1, .inl (eO E, 6, .inr (.inr (.inr (.inr (fun k => some (u4.2 k 0))))))) :: (wRg E u4.2 (fun _ => Bat0)))))) H := by
    have h := hP
    rw [List.append_nil] at h
    exact h
  have hD : va_D A ((h0, .inr (5, [.ref (u2 0), .null, .null, .int 0, .int 0, .int 0])) :: ((wB E u2 Bat0) ++ ((q3, .inr (3, [.ref u4.1, .int (nI 0), .int 0])) :: ((u4.1, .inl (eO E, 6, .inr (.inr (.inr (.inr (fun k => some (u4.2 k 0))))))) :: (wRg E u4.2 (fun _ => Bat0)))))) := by
    have h := hD
    rw [List.append_nil] at h
    exact h
  refine va_putF (D := E.1) (ci := 5) (v := .ref q3) (ty := tyX5 1) (C := RX5) (T := TX5) (N := 6) (pc := 23) hx hb hts ii_X5_init_X5 tyX5 tyX5_ok nmX5 hown hK.1 hP hD hS 0 rfl rfl 1 (by decide) (hts _ mm_X5_init_11) (fun _ h9 => h9) rfl hin rfl (by decide +kernel) rfl rfl (Nat.le_of_ble_eq_true rfl) dX5_init_23 (fun H locs hP hD hS => ?_)
  have hP : va_P E.1 vwCl ((h0, .inr (5, [.ref (u2 0), .ref q3, .null, .int 0, .int 0, .int 0])) :: ((wB E u2 Bat0) ++ ((q3, .inr (3, [.ref u4.1, .int (nI 0), .int 0])) :: ((u4.1, .inl (eO E, 6, .inr (.inr (.inr (.inr (fun k => some (u4.2 k 0))))))) :: (wRg E u4.2 (fun _ => Bat0)))))) H := hP
  have hD : va_D A ((h0, .inr (5, [.ref (u2 0), .ref q3, .null, .int 0, .int 0, .int 0])) :: ((wB E u2 Bat0) ++ ((q3, .inr (3, [.ref u4.1, .int (nI 0), .int 0])) :: ((u4.1, .inl (eO E, 6, .inr (.inr (.inr (.inr (fun k => some (u4.2 k 0))))))) :: (wRg E u4.2 (fun _ => Bat0)))))) := hD
  refine lv_aload_n (pc := 26) hx hb dX5_init_26 rfl (lv_at hl 0 rfl) ?_
  refine va_new (ci := 4) (fs := [.null, .int 0, .null, .null, .null, .int 0, .int 0, .int 0]) (C := RX4) (T := TX4) (N := 8) (pc := 27) hx hb hts ii_X5_init_X4 tyX4 tyX4_ok hown (hts _ mm_X5_init_12) (hts _ mm_X5_init_13) (hts _ mm_X5_init_14) hK.1 hP hD hS hA rfl (fun j hj => by rcases (show j = 0 ∨ j = 1 ∨ j = 2 ∨ j = 3 ∨ j = 4 ∨ j = 5 ∨ j = 6 ∨ j = 7 by omega) with rfl | rfl | rfl | rfl | rfl | rfl | rfl | rfl <;> rfl) (Nat.le_of_ble_eq_true rfl) (Nat.le_of_ble_eq_true rfl) dX5_init_27 (fun q5 H hP hD hS => ?_)
  have hP : va_P E.1 vwCl ((h0, .inr (5, [.ref (u2 0), .ref q3, .null, .int 0, .int 0, .int 0])) :: ((wB E u2 Bat0) ++ ((q3, .inr (3, [.ref u4.1, .int (nI 0), .int 0])) :: ((u4.1, .inl (eO E, 6, .inr (.inr (.inr (.inr (fun k => some (u4.2 k 0))))))) :: ((wRg E u4.2 (fun _ => Bat0)) ++ ((q5, .inr (4, [.null, .int 0, .null, .null, .null, .int 0, .int 0, .int 0])) :: [])))))) H := (by simpa only [List.cons_append, List.append_assoc, List.nil_append, List.append_nil] using hP)
  have hD : va_D A ((h0, .inr (5, [.ref (u2 0), .ref q3, .null, .int 0, .int 0, .int 0])) :: ((wB E u2 Bat0) ++ ((q3, .inr (3, [.ref u4.1, .int (nI 0), .int 0])) :: ((u4.1, .inl (eO E, 6, .inr (.inr (.inr (.inr (fun k => some (u4.2 k 0))))))) :: ((wRg E u4.2 (fun _ => Bat0)) ++ ((q5, .inr (4, [.null, .int 0, .null, .null, .null, .int 0, .int 0, .int 0])) :: [])))))) := (by simpa only [List.cons_append, List.append_assoc, List.nil_append, List.append_nil] using hD)
  refine lv_dup (pc := 30) hx hb dX5_init_30 rfl ?_
  refine gcI (pc := 31) (pre := ((h0, .inr (5, [.ref (u2 0), .ref q3, .null, .int 0, .int 0, .int 0])) :: ((wB E u2 Bat0) ++ ((q3, .inr (3, [.ref u4.1, .int (nI 0), .int 0])) :: ((u4.1, .inl (eO E, 6, .inr (.inr (.inr (.inr (fun k => some (u4.2 k 0))))))) :: (wRg E u4.2 (fun _ => Bat0))))))) (post := []) (rest := [.ref q5, .ref h0]) ⟨hx, hb, hml, hown, hts⟩ (kX4_init l E q5) (cwI 0 hts gX5_init_X4_init rfl rfl rfl (hts _ mm_X5_init_14) (hts _ mm_X5_init_57) (hts _ mm_X5_init_58) rfl qiX4_init ⟨Nat.le_of_ble_eq_true rfl, Nat.le_of_ble_eq_true rfl⟩) hK hAO hP hD hS hA (by simp only [List.cons_append, List.append_assoc, List.nil_append, List.append_nil]) hl.1 rfl (Nat.le_of_ble_eq_true rfl) dX5_init_31 ⟨Nat.le_of_ble_eq_true rfl, Nat.le_of_ble_eq_true rfl⟩ (fun u6 H locs hu6 hP hD hS => ?_)
  rw [← hu6]
  have hP : va_P E.1 vwCl ((h0, .inr (5, [.ref (u2 0), .ref q3, .null, .int 0, .int 0, .int 0])) :: ((wB E u2 Bat0) ++ ((q3, .inr (3, [.ref u4.1, .int (nI 0), .int 0])) :: ((u4.1, .inl (eO E, 6, .inr (.inr (.inr (.inr (fun k => some (u4.2 k 0))))))) :: ((wRg E u4.2 (fun _ => Bat0)) ++ (wT E u6 Txt0)))))) H := (by simpa only [List.cons_append, List.append_assoc, List.nil_append, List.append_nil] using hP)
  have hD : va_D A ((h0, .inr (5, [.ref (u2 0), .ref q3, .null, .int 0, .int 0, .int 0])) :: ((wB E u2 Bat0) ++ ((q3, .inr (3, [.ref u4.1, .int (nI 0), .int 0])) :: ((u4.1, .inl (eO E, 6, .inr (.inr (.inr (.inr (fun k => some (u4.2 k 0))))))) :: ((wRg E u4.2 (fun _ => Bat0)) ++ (wT E u6 Txt0)))))) := (by simpa only [List.cons_append, List.append_assoc, List.nil_append, List.append_nil] using hD)
  refine va_putF (D := E.1) (ci := 5) (v := .ref (u6 0)) (ty := tyX5 2) (C := RX5) (T := TX5) (N := 6) (pc := 34) hx hb hts ii_X5_init_X5 tyX5 tyX5_ok nmX5 hown hK.1 hP hD hS 0 rfl rfl 2 (by decide) (hts _ mm_X5_init_15) (fun _ h9 => h9) rfl hin rfl (by decide +kernel) rfl rfl (Nat.le_of_ble_eq_true rfl) dX5_init_34 (fun H locs hP hD hS => ?_)
  have hP : va_P E.1 vwCl ((h0, .inr (5, [.ref (u2 0), .ref q3, .ref (u6 0), .int 0, .int 0, .int 0])) :: ((wB E u2 Bat0) ++ ((q3, .inr (3, [.ref u4.1, .int (nI 0), .int 0])) :: ((u4.1, .inl (eO E, 6, .inr (.inr (.inr (.inr (fun k => some (u4.2 k 0))))))) :: ((wRg E u4.2 (fun _ => Bat0)) ++ (wT E u6 Txt0)))))) H := hP
  have hD : va_D A ((h0, .inr (5, [.ref (u2 0), .ref q3, .ref (u6 0), .int 0, .int 0, .int 0])) :: ((wB E u2 Bat0) ++ ((q3, .inr (3, [.ref u4.1, .int (nI 0), .int 0])) :: ((u4.1, .inl (eO E, 6, .inr (.inr (.inr (.inr (fun k => some (u4.2 k 0))))))) :: ((wRg E u4.2 (fun _ => Bat0)) ++ (wT E u6 Txt0)))))) := hD
  exact hQ _ _ _ _ (u2, q3, u4.1, u4.2, u6) _ _ (Nat.le_of_ble_eq_true rfl) (Nat.le_of_ble_eq_true rfl) trivial hP hD hS dX5_init_37
