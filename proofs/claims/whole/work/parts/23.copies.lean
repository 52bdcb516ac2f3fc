/-! two chunks of a world that are not side by side; copies -/
theorem gD_nd {A : Nat → Prop} {w : va_W} : va_D A w ↔ (w.map Prod.fst).Nodup ∧ ∀ q ∈ w, A q.1 := by
  constructor
  · intro h
    refine ⟨?_, fun q hq => ?_⟩
    · rw [List.nodup_iff_pairwise_ne, List.pairwise_iff_getElem]
      intro i j hi hj hij e
      rw [List.length_map] at hi hj
      rw [List.getElem_map, List.getElem_map] at e
      have := h.1 i j w[i] w[j] (List.getElem?_eq_getElem hi) (List.getElem?_eq_getElem hj) e
      omega
    · obtain ⟨i, hi⟩ := List.getElem?_of_mem hq
      exact h.2 i q hi
  · intro h
    refine ⟨fun i j p q hi hj e => ?_, fun k q hk => h.2 q (List.mem_of_getElem? hk)⟩
    obtain ⟨hli, hi⟩ := List.getElem?_eq_some_iff.mp hi
    obtain ⟨hlj, hj⟩ := List.getElem?_eq_some_iff.mp hj
    have h1 := h.1
    rw [List.nodup_iff_pairwise_ne, List.pairwise_iff_getElem] at h1
    rcases Nat.lt_trichotomy i j with c | c | c
    · exact absurd (by rw [List.getElem_map, List.getElem_map, hi, hj]; exact e) (h1 i j (by rw [List.length_map]; exact hli) (by rw [List.length_map]; exact hlj) c)
    · exact c
    · exact absurd (by rw [List.getElem_map, List.getElem_map, hi, hj]; exact e.symm) (h1 j i (by rw [List.length_map]; exact hlj) (by rw [List.length_map]; exact hli) c)
theorem gD_perm {A : Nat → Prop} {w v : va_W} (p : w.Perm v) (h : va_D A w) : va_D A v := by
  rw [gD_nd] at h ⊢
  exact ⟨(p.map Prod.fst).nodup_iff.mp h.1, fun q hq => h.2 q (p.mem_iff.mpr hq)⟩
theorem gP_perm {D : va_G} {cl : List vw_C} {H : Heap} {w v : va_W} (p : w.Perm v) (h : va_P D cl w H) : va_P D cl v H := by
  intro k q hk
  obtain ⟨i, hi⟩ := List.getElem?_of_mem (p.mem_iff.mpr (List.mem_of_getElem? hk))
  exact h i q hi
theorem perm_xz (P X Y Z T : va_W) : (P ++ (X ++ (Y ++ (Z ++ T)))).Perm ((X ++ Z) ++ (P ++ (Y ++ T))) := by
  have h1 : (Y ++ (Z ++ T)).Perm (Z ++ (Y ++ T)) := List.perm_append_comm_assoc Y Z T
  have h2 : (P ++ (X ++ (Y ++ (Z ++ T)))).Perm (X ++ (P ++ (Y ++ (Z ++ T)))) := List.perm_append_comm_assoc P X _
  have h3 : (P ++ (Y ++ (Z ++ T))).Perm (Z ++ (P ++ (Y ++ T))) := (List.Perm.append_left P h1).trans (List.perm_append_comm_assoc P Z _)
  rw [List.append_assoc]
  exact h2.trans (List.Perm.append_left X h3)
theorem perm_zx (P X Y Z T : va_W) : (P ++ (X ++ (Y ++ (Z ++ T)))).Perm ((Z ++ X) ++ (P ++ (Y ++ T))) := (perm_xz P X Y Z T).trans (List.Perm.append_right _ List.perm_append_comm)
section CALLS2
variable {p : Program} {l : Launch} {e : Env} {R : Room} {s : State} {m : MethodId} {args : Array Value} {below : List Frame} {meth : Method} {c : Code} {H : Heap} {locs : List Loc} {cells slots : Nat} {Q : State → Prop}
variable {E : gEnv} {A : Nat → Prop} {cc bytes : ByteArray} {nL maxL index n pc : Nat} {Ts ws2 : List Cond} {rm2 : Room} {own C : String} {y : MethodName} {ret : Option FieldType} {b : Nat} {As rest st : List Value} {ls : Array Slot} {w w1 P X X' Y Z Z' T : va_W} {fs : List Value} {TT : u_T} {N q0 ci : Nat}
/-- this is X, the other is Z behind it -/
theorem gcV_xz (S : CallFix p m c cc nL s args Ts own) (hM : gMv l E y ws2 rm2 (.ref b :: As) (X ++ Z) (X' ++ Z)) (cw : CallW R s args own C index y bytes maxL ret ws2 rm2 0 0 n) (hK : gKn E s) (hP : va_P E.1 vwCl w H) (hD : va_D A w) (hS : va_S A s.heap H locs) (hA : ∀ q, s.heap.size ≤ q → A q) (hw : w = P ++ (X ++ (Y ++ (Z ++ T)))) (hw1 : P ++ (X' ++ (Y ++ (Z ++ T))) = w1) (hq : (X ++ Z)[q0]? = some (b, .inr (ci, fs))) (hc : vwCl[ci]? = some (C, TT, N)) (hn : As.length = n) (hsz : ls.size = nL) (hst : st = As.reverse ++ .ref b :: rest) (hrm : (rest.map fun v => v.category).sum ≤ 8) (hdg : decode cc pc = .ok (.invokevirtual index, 3)) (hf : cells ≤ R.cells ∧ slots ≤ R.slots)
    (kk : ∀ (H1 : Heap) (locs1 : List Loc), va_P E.1 vwCl w1 H1 → va_D A w1 → va_S A s.heap H1 locs1 → W p l e R s m args below meth c H1 locs1 cells slots Q (F0 m (pc + 3) ls rest)) : W p l e R s m args below meth c H locs cells slots Q (F0 m pc ls st) := by
  subst hw; subst hw1
  refine gcVv (pre := []) (post := P ++ (Y ++ T)) S hM cw hK (gP_perm (perm_xz P X Y Z T) hP) (gD_perm (perm_xz P X Y Z T) hD) hS hA rfl rfl hq hc hn hsz hst hrm hdg hf (fun H1 locs1 hP hD hS => ?_)
  exact kk H1 locs1 (gP_perm (perm_xz P X' Y Z T).symm hP) (gD_perm (perm_xz P X' Y Z T).symm hD) hS
/-- this is Z, the other is X ahead of it -/
theorem gcV_zx (S : CallFix p m c cc nL s args Ts own) (hM : gMv l E y ws2 rm2 (.ref b :: As) (Z ++ X) (Z' ++ X)) (cw : CallW R s args own C index y bytes maxL ret ws2 rm2 0 0 n) (hK : gKn E s) (hP : va_P E.1 vwCl w H) (hD : va_D A w) (hS : va_S A s.heap H locs) (hA : ∀ q, s.heap.size ≤ q → A q) (hw : w = P ++ (X ++ (Y ++ (Z ++ T)))) (hw1 : P ++ (X ++ (Y ++ (Z' ++ T))) = w1) (hq : (Z ++ X)[q0]? = some (b, .inr (ci, fs))) (hc : vwCl[ci]? = some (C, TT, N)) (hn : As.length = n) (hsz : ls.size = nL) (hst : st = As.reverse ++ .ref b :: rest) (hrm : (rest.map fun v => v.category).sum ≤ 8) (hdg : decode cc pc = .ok (.invokevirtual index, 3)) (hf : cells ≤ R.cells ∧ slots ≤ R.slots)
    (kk : ∀ (H1 : Heap) (locs1 : List Loc), va_P E.1 vwCl w1 H1 → va_D A w1 → va_S A s.heap H1 locs1 → W p l e R s m args below meth c H1 locs1 cells slots Q (F0 m (pc + 3) ls rest)) : W p l e R s m args below meth c H locs cells slots Q (F0 m pc ls st) := by
  subst hw; subst hw1
  refine gcVv (pre := []) (post := P ++ (Y ++ T)) S hM cw hK (gP_perm (perm_zx P X Y Z T) hP) (gD_perm (perm_zx P X Y Z T) hD) hS hA rfl rfl hq hc hn hsz hst hrm hdg hf (fun H1 locs1 hP hD hS => ?_)
  exact kk H1 locs1 (gP_perm (perm_zx P X Y Z' T).symm hP) (gD_perm (perm_zx P X Y Z' T).symm hD) hS
end CALLS2

def fX2_copyFrom (C D : Nat → Int32) : Nat → Int32 :=
  (va_cpy D C 0 0 11)
abbrev rX2_copyFrom : Room := { frames := 1, cells := 0, slots := 0, locals := 18 }
theorem mm_X2_copyFrom_1 : Cond.fieldLink RX2 11 "GaugeBounds$Curve" "points" "[I" ∈ wsX2_copyFrom := List.mem_of_getElem? (i := 1) rfl
theorem mm_X2_copyFrom_2 : Cond.methodLink RX2 15 arraycopyName ∈ wsX2_copyFrom := List.mem_of_getElem? (i := 2) rfl
theorem mm_X2_copyFrom_3 : Cond.native arraycopyName ∈ wsX2_copyFrom := List.mem_of_getElem? (i := 3) rfl
theorem mm_X2_copyFrom_4 : Cond.static arraycopyName ∈ wsX2_copyFrom := List.mem_of_getElem? (i := 4) rfl
theorem mm_X2_copyFrom_5 : Cond.initialized "java/lang/System" ∈ wsX2_copyFrom := List.mem_of_getElem? (i := 5) rfl
theorem ii_X2_copyFrom_X2 : ∀ w ∈ wsX20, w ∈ wsX2_copyFrom := fun _ h => List.mem_cons_of_mem _ (List.mem_append_right _ (h))
theorem qvX2_copyFrom : yX2_copyFrom.cls = RX2 ∧ yX2_copyFrom.cls ≠ "java/lang/invoke/MethodHandle" ∧ yX2_copyFrom.cls ≠ "java/lang/invoke/VarHandle" ∧ (parseMethodDescriptor yX2_copyFrom.desc).map (fun d => d.parameters.length) = some 1 := by decide +kernel
set_option maxHeartbeats 4000000 in
set_option maxRecDepth 100000 in
theorem kX2_copyFrom (l : Launch) (E : gEnv) (q0 q1 p0 p1 : Nat) (C D : Nat → Int32) : gMv l E yX2_copyFrom wsX2_copyFrom rX2_copyFrom [.ref q0, .ref p0] (wCu E q0 q1 C ++ wCu E p0 p1 D) (wCu E q0 q1 (fX2_copyFrom C D) ++ wCu E p0 p1 D) := by
  refine gMv_of (cc := cX2_copyFrom) (maxL := 2) (ret := none) (by decide) rfl rfl (Nat.le_of_ble_eq_true rfl) ?_
  intro p e s m args below meth c A Q ls hB hQ
  obtain ⟨hx, hb, hml, hown, hts, hK, hP, hD, hA, hS, hl⟩ := hB
  have hown : s.vm.findClass RX2 = some m.cls := hown
  have hP : va_P E.1 vwCl [(q0, .inr (2, [.ref q1])), (q1, .inl (eI E, 11, .inl C)), (p0, .inr (2, [.ref p1])), (p1, .inl (eI E, 11, .inl D))] s.heap := hP
  have hD : va_D A [(q0, .inr (2, [.ref q1])), (q1, .inl (eI E, 11, .inl C)), (p0, .inr (2, [.ref p1])), (p1, .inl (eI E, 11, .inl D))] := hD
  have hl : lv_has ls 2 [(0, .ref q0), (1, .ref p0)] := hl
  refine lv_aload_n (pc := 0) hx hb dX2_copyFrom_0 rfl (lv_at hl 1 rfl) ?_
  refine g_get (v := .ref p1) (pc := 1) hx hb hts ii_X2_copyFrom_X2 hown hK.1 hP 2 rfl rfl 0 (by decide) ⟨rfl, rfl, rfl⟩ mm_X2_copyFrom_1 rfl dX2_copyFrom_1 ?_
  refine lv_iconst (v := 0) (pc := 4) hx hb dX2_copyFrom_4 rfl ?_
  refine lv_aload_n (pc := 5) hx hb dX2_copyFrom_5 rfl (lv_at hl 0 rfl) ?_
  refine g_get (v := .ref q1) (pc := 6) hx hb hts ii_X2_copyFrom_X2 hown hK.1 hP 0 rfl rfl 0 (by decide) ⟨rfl, rfl, rfl⟩ mm_X2_copyFrom_1 rfl dX2_copyFrom_6 ?_
  refine lv_iconst (v := 0) (pc := 9) hx hb dX2_copyFrom_9 rfl ?_
  refine lv_bipush (v := 11) (pc := 10) hx hb dX2_copyFrom_10 rfl ?_
  refine va_copyi (pc := 12) hx hb (hml.trans hl.1.symm) hown (hts _ mm_X2_copyFrom_2) (hts _ mm_X2_copyFrom_3) (hts _ mm_X2_copyFrom_4) (hts _ mm_X2_copyFrom_5) hK.1 hP hD hS 3 1 0 0 rfl rfl rfl rfl rfl (by decide) (by decide) (by decide) (by decide) (by decide) (fun _ _ => rfl) (Nat.le_of_ble_eq_true rfl) (Nat.le_of_ble_eq_true rfl) dX2_copyFrom_12 (fun H locs hP hD hS => ?_)
  have hP : va_P E.1 vwCl [(q0, .inr (2, [.ref q1])), (q1, .inl (eI E, 11, .inl (va_cpy D C 0 0 11))), (p0, .inr (2, [.ref p1])), (p1, .inl (eI E, 11, .inl D))] H := hP
  have hD : va_D A [(q0, .inr (2, [.ref q1])), (q1, .inl (eI E, 11, .inl (va_cpy D C 0 0 11))), (p0, .inr (2, [.ref p1])), (p1, .inl (eI E, 11, .inl D))] := hD
  exact hQ _ _ _ _ hP hD hS dX2_copyFrom_15

def fX0_copyFrom (S : Nat → Int64) (N : Nat → Int32) (S2 : Nat → Int64) (N2 : Nat → Int32) : (Nat → Int64) × (Nat → Int32) :=
  ((va_cpy S2 S 0 0 22), (va_cpy N2 N 0 0 22))
abbrev rX0_copyFrom : Room := { frames := 1, cells := 0, slots := 0, locals := 18 }
theorem mm_X0_copyFrom_1 : Cond.fieldLink RX0 11 "GaugeBounds$Bands" "sums" "[J" ∈ wsX0_copyFrom := List.mem_of_getElem? (i := 1) rfl
theorem mm_X0_copyFrom_2 : Cond.methodLink RX0 19 arraycopyName ∈ wsX0_copyFrom := List.mem_of_getElem? (i := 2) rfl
theorem mm_X0_copyFrom_3 : Cond.native arraycopyName ∈ wsX0_copyFrom := List.mem_of_getElem? (i := 3) rfl
theorem mm_X0_copyFrom_4 : Cond.static arraycopyName ∈ wsX0_copyFrom := List.mem_of_getElem? (i := 4) rfl
theorem mm_X0_copyFrom_5 : Cond.initialized "java/lang/System" ∈ wsX0_copyFrom := List.mem_of_getElem? (i := 5) rfl
theorem mm_X0_copyFrom_6 : Cond.fieldLink RX0 15 "GaugeBounds$Bands" "counts" "[I" ∈ wsX0_copyFrom := List.mem_of_getElem? (i := 6) rfl
theorem ii_X0_copyFrom_X0 : ∀ w ∈ wsX00, w ∈ wsX0_copyFrom := fun _ h => List.mem_cons_of_mem _ (List.mem_append_right _ (h))
theorem qvX0_copyFrom : yX0_copyFrom.cls = RX0 ∧ yX0_copyFrom.cls ≠ "java/lang/invoke/MethodHandle" ∧ yX0_copyFrom.cls ≠ "java/lang/invoke/VarHandle" ∧ (parseMethodDescriptor yX0_copyFrom.desc).map (fun d => d.parameters.length) = some 1 := by decide +kernel
set_option maxHeartbeats 4000000 in
set_option maxRecDepth 100000 in
theorem kX0_copyFrom (l : Launch) (E : gEnv) (q0 q1 q2 p0 p1 p2 : Nat) (S : Nat → Int64) (N : Nat → Int32) (S2 : Nat → Int64) (N2 : Nat → Int32) : gMv l E yX0_copyFrom wsX0_copyFrom rX0_copyFrom [.ref q0, .ref p0] (wBn E q0 q1 q2 S N ++ wBn E p0 p1 p2 S2 N2) (wBn E q0 q1 q2 ((fX0_copyFrom S N S2 N2).1) ((fX0_copyFrom S N S2 N2).2) ++ wBn E p0 p1 p2 S2 N2) := by
  refine gMv_of (cc := cX0_copyFrom) (maxL := 2) (ret := none) (by decide) rfl rfl (Nat.le_of_ble_eq_true rfl) ?_
  intro p e s m args below meth c A Q ls hB hQ
  obtain ⟨hx, hb, hml, hown, hts, hK, hP, hD, hA, hS, hl⟩ := hB
  have hown : s.vm.findClass RX0 = some m.cls := hown
  have hP : va_P E.1 vwCl [(q0, .inr (0, [.ref q1, .ref q2])), (q1, .inl (eJ E, 22, .inr (.inl S))), (q2, .inl (eI E, 22, .inl N)), (p0, .inr (0, [.ref p1, .ref p2])), (p1, .inl (eJ E, 22, .inr (.inl S2))), (p2, .inl (eI E, 22, .inl N2))] s.heap := hP
  have hD : va_D A [(q0, .inr (0, [.ref q1, .ref q2])), (q1, .inl (eJ E, 22, .inr (.inl S))), (q2, .inl (eI E, 22, .inl N)), (p0, .inr (0, [.ref p1, .ref p2])), (p1, .inl (eJ E, 22, .inr (.inl S2))), (p2, .inl (eI E, 22, .inl N2))] := hD
  have hl : lv_has ls 2 [(0, .ref q0), (1, .ref p0)] := hl
  refine lv_aload_n (pc := 0) hx hb dX0_copyFrom_0 rfl (lv_at hl 1 rfl) ?_
  refine g_get (v := .ref p1) (pc := 1) hx hb hts ii_X0_copyFrom_X0 hown hK.1 hP 3 rfl rfl 0 (by decide) ⟨rfl, rfl, rfl⟩ mm_X0_copyFrom_1 rfl dX0_copyFrom_1 ?_
  refine lv_iconst (v := 0) (pc := 4) hx hb dX0_copyFrom_4 rfl ?_
  refine lv_aload_n (pc := 5) hx hb dX0_copyFrom_5 rfl (lv_at hl 0 rfl) ?_
  refine g_get (v := .ref q1) (pc := 6) hx hb hts ii_X0_copyFrom_X0 hown hK.1 hP 0 rfl rfl 0 (by decide) ⟨rfl, rfl, rfl⟩ mm_X0_copyFrom_1 rfl dX0_copyFrom_6 ?_
  refine lv_iconst (v := 0) (pc := 9) hx hb dX0_copyFrom_9 rfl ?_
  refine lv_bipush (v := 22) (pc := 10) hx hb dX0_copyFrom_10 rfl ?_
  refine va_copyl (pc := 12) hx hb (hml.trans hl.1.symm) hown (hts _ mm_X0_copyFrom_2) (hts _ mm_X0_copyFrom_3) (hts _ mm_X0_copyFrom_4) (hts _ mm_X0_copyFrom_5) hK.1 hP hD hS 4 1 1 1 rfl rfl rfl rfl rfl (by decide) (by decide) (by decide) (by decide) (by decide) (fun _ _ => rfl) (Nat.le_of_ble_eq_true rfl) (Nat.le_of_ble_eq_true rfl) dX0_copyFrom_12 (fun H locs hP hD hS => ?_)
  have hP : va_P E.1 vwCl [(q0, .inr (0, [.ref q1, .ref q2])), (q1, .inl (eJ E, 22, .inr (.inl (va_cpy S2 S 0 0 22)))), (q2, .inl (eI E, 22, .inl N)), (p0, .inr (0, [.ref p1, .ref p2])), (p1, .inl (eJ E, 22, .inr (.inl S2))), (p2, .inl (eI E, 22, .inl N2))] H := hP
  have hD : va_D A [(q0, .inr (0, [.ref q1, .ref q2])), (q1, .inl (eJ E, 22, .inr (.inl (va_cpy S2 S 0 0 22)))), (q2, .inl (eI E, 22, .inl N)), (p0, .inr (0, [.ref p1, .ref p2])), (p1, .inl (eJ E, 22, .inr (.inl S2))), (p2, .inl (eI E, 22, .inl N2))] := hD
  refine lv_aload_n (pc := 15) hx hb dX0_copyFrom_15 rfl (lv_at hl 1 rfl) ?_
  refine g_get (v := .ref p2) (pc := 16) hx hb hts ii_X0_copyFrom_X0 hown hK.1 hP 3 rfl rfl 1 (by decide) ⟨rfl, rfl, rfl⟩ mm_X0_copyFrom_6 rfl dX0_copyFrom_16 ?_
  refine lv_iconst (v := 0) (pc := 19) hx hb dX0_copyFrom_19 rfl ?_
  refine lv_aload_n (pc := 20) hx hb dX0_copyFrom_20 rfl (lv_at hl 0 rfl) ?_
  refine g_get (v := .ref q2) (pc := 21) hx hb hts ii_X0_copyFrom_X0 hown hK.1 hP 0 rfl rfl 1 (by decide) ⟨rfl, rfl, rfl⟩ mm_X0_copyFrom_6 rfl dX0_copyFrom_21 ?_
  refine lv_iconst (v := 0) (pc := 24) hx hb dX0_copyFrom_24 rfl ?_
  refine lv_bipush (v := 22) (pc := 25) hx hb dX0_copyFrom_25 rfl ?_
  refine va_copyi (pc := 27) hx hb (hml.trans hl.1.symm) hown (hts _ mm_X0_copyFrom_2) (hts _ mm_X0_copyFrom_3) (hts _ mm_X0_copyFrom_4) (hts _ mm_X0_copyFrom_5) hK.1 hP hD hS 5 2 0 0 rfl rfl rfl rfl rfl (by decide) (by decide) (by decide) (by decide) (by decide) (fun _ _ => rfl) (Nat.le_of_ble_eq_true rfl) (Nat.le_of_ble_eq_true rfl) dX0_copyFrom_27 (fun H locs hP hD hS => ?_)
  have hP : va_P E.1 vwCl [(q0, .inr (0, [.ref q1, .ref q2])), (q1, .inl (eJ E, 22, .inr (.inl (va_cpy S2 S 0 0 22)))), (q2, .inl (eI E, 22, .inl (va_cpy N2 N 0 0 22))), (p0, .inr (0, [.ref p1, .ref p2])), (p1, .inl (eJ E, 22, .inr (.inl S2))), (p2, .inl (eI E, 22, .inl N2))] H := hP
  have hD : va_D A [(q0, .inr (0, [.ref q1, .ref q2])), (q1, .inl (eJ E, 22, .inr (.inl (va_cpy S2 S 0 0 22)))), (q2, .inl (eI E, 22, .inl (va_cpy N2 N 0 0 22))), (p0, .inr (0, [.ref p1, .ref p2])), (p1, .inl (eJ E, 22, .inr (.inl S2))), (p2, .inl (eI E, 22, .inl N2))] := hD
  exact hQ _ _ _ _ hP hD hS dX0_copyFrom_30

def fX1_copyFrom (B G : Bat) : Bat :=
  let x1 : Int32 := G.1 0
  let x2 : Int32 := G.1 1
  let x3 : Int32 := G.1 2
  let x4 : Int32 := G.1 3
  let x5 : Int32 := G.1 4
  let x6 : Int32 := G.1 5
  let x7 : Int32 := G.1 6
  let x8 : Int32 := G.1 7
  let x9 : Int32 := G.1 8
  let x10 : Int32 := G.1 9
  let x11 : Int32 := G.1 10
  let x12 : Int32 := G.1 11
  let x13 : Int32 := G.1 12
  (G.1, (fX2_copyFrom B.2.1 G.2.1), (fX0_copyFrom B.2.2.1 B.2.2.2 G.2.2.1 G.2.2.2).1, (fX0_copyFrom B.2.2.1 B.2.2.2 G.2.2.1 G.2.2.2).2)
abbrev rX1_copyFrom : Room := { frames := 2, cells := 0, slots := 0, locals := 39 }
theorem mm_X1_copyFrom_1 : Cond.fieldLink RX1 12 "GaugeBounds$Battery" "curve" "LGaugeBounds$Curve;" ∈ wsX1_copyFrom := List.mem_of_getElem? (i := 1) rfl
theorem mm_X1_copyFrom_2 : Cond.fieldLink RX1 21 "GaugeBounds$Battery" "bands" "LGaugeBounds$Bands;" ∈ wsX1_copyFrom := List.mem_of_getElem? (i := 2) rfl
theorem mm_X1_copyFrom_3 : Cond.fieldLink RX1 58 "GaugeBounds$Battery" "low" "I" ∈ wsX1_copyFrom := List.mem_of_getElem? (i := 3) rfl
theorem mm_X1_copyFrom_4 : Cond.fieldLink RX1 25 "GaugeBounds$Battery" "high" "I" ∈ wsX1_copyFrom := List.mem_of_getElem? (i := 4) rfl
theorem mm_X1_copyFrom_5 : Cond.fieldLink RX1 29 "GaugeBounds$Battery" "leastCapacity" "I" ∈ wsX1_copyFrom := List.mem_of_getElem? (i := 5) rfl
theorem mm_X1_copyFrom_6 : Cond.fieldLink RX1 32 "GaugeBounds$Battery" "mostCapacity" "I" ∈ wsX1_copyFrom := List.mem_of_getElem? (i := 6) rfl
theorem mm_X1_copyFrom_7 : Cond.fieldLink RX1 35 "GaugeBounds$Battery" "offset" "I" ∈ wsX1_copyFrom := List.mem_of_getElem? (i := 7) rfl
theorem mm_X1_copyFrom_8 : Cond.fieldLink RX1 38 "GaugeBounds$Battery" "cling" "I" ∈ wsX1_copyFrom := List.mem_of_getElem? (i := 8) rfl
theorem mm_X1_copyFrom_9 : Cond.fieldLink RX1 61 "GaugeBounds$Battery" "drawn" "I" ∈ wsX1_copyFrom := List.mem_of_getElem? (i := 9) rfl
theorem mm_X1_copyFrom_10 : Cond.fieldLink RX1 64 "GaugeBounds$Battery" "steps" "I" ∈ wsX1_copyFrom := List.mem_of_getElem? (i := 10) rfl
theorem mm_X1_copyFrom_11 : Cond.fieldLink RX1 67 "GaugeBounds$Battery" "rests" "I" ∈ wsX1_copyFrom := List.mem_of_getElem? (i := 11) rfl
theorem mm_X1_copyFrom_12 : Cond.fieldLink RX1 42 "GaugeBounds$Battery" "lastA" "I" ∈ wsX1_copyFrom := List.mem_of_getElem? (i := 12) rfl
theorem mm_X1_copyFrom_13 : Cond.fieldLink RX1 45 "GaugeBounds$Battery" "lastB" "I" ∈ wsX1_copyFrom := List.mem_of_getElem? (i := 13) rfl
theorem mm_X1_copyFrom_14 : Cond.fieldLink RX1 70 "GaugeBounds$Battery" "clashes" "I" ∈ wsX1_copyFrom := List.mem_of_getElem? (i := 14) rfl
theorem mm_X1_copyFrom_15 : Cond.fieldLink RX1 48 "GaugeBounds$Battery" "shown" "I" ∈ wsX1_copyFrom := List.mem_of_getElem? (i := 15) rfl
theorem ii_X1_copyFrom_X1 : ∀ w ∈ wsX10, w ∈ wsX1_copyFrom := fun _ h => List.mem_cons_of_mem _ (List.mem_append_left _ (List.mem_append_left _ (List.mem_append_right _ (h))))
theorem qvX1_copyFrom : yX1_copyFrom.cls = RX1 ∧ yX1_copyFrom.cls ≠ "java/lang/invoke/MethodHandle" ∧ yX1_copyFrom.cls ≠ "java/lang/invoke/VarHandle" ∧ (parseMethodDescriptor yX1_copyFrom.desc).map (fun d => d.parameters.length) = some 1 := by decide +kernel
set_option maxHeartbeats 4000000 in
set_option maxRecDepth 100000 in
theorem kX1_copyFrom (l : Launch) (E : gEnv) (a d : Nat → Nat) (B G : Bat) : gMv l E yX1_copyFrom wsX1_copyFrom rX1_copyFrom [.ref (a 0), .ref (d 0)] (wB E a B ++ wB E d G) (wB E a (fX1_copyFrom B G) ++ wB E d G) := by
  refine gMv_of (cc := cX1_copyFrom) (maxL := 2) (ret := none) (by decide) rfl rfl (Nat.le_of_ble_eq_true rfl) ?_
  intro p e s m args below meth c A Q ls hB hQ
  obtain ⟨hx, hb, hml, hown, hts, hK, hP, hD, hA, hS, hl⟩ := hB
  have hown : s.vm.findClass RX1 = some m.cls := hown
  have hP : va_P E.1 vwCl [(a 0, .inr (1, [.ref (a 1), .ref (a 3), .int (B.1 0), .int (B.1 1), .int (B.1 2), .int (B.1 3), .int (B.1 4), .int (B.1 5), .int (B.1 6), .int (B.1 7), .int (B.1 8), .int (B.1 9), .int (B.1 10), .int (B.1 11), .int (B.1 12)])), (a 1, .inr (2, [.ref (a 2)])), (a 2, .inl (eI E, 11, .inl B.2.1)), (a 3, .inr (0, [.ref (a 4), .ref (a 5)])), (a 4, .inl (eJ E, 22, .inr (.inl B.2.2.1))), (a 5, .inl (eI E, 22, .inl B.2.2.2)), (d 0, .inr (1, [.ref (d 1), .ref (d 3), .int (G.1 0), .int (G.1 1), .int (G.1 2), .int (G.1 3), .int (G.1 4), .int (G.1 5), .int (G.1 6), .int (G.1 7), .int (G.1 8), .int (G.1 9), .int (G.1 10), .int (G.1 11), .int (G.1 12)])), (d 1, .inr (2, [.ref (d 2)])), (d 2, .inl (eI E, 11, .inl G.2.1)), (d 3, .inr (0, [.ref (d 4), .ref (d 5)])), (d 4, .inl (eJ E, 22, .inr (.inl G.2.2.1))), (d 5, .inl (eI E, 22, .inl G.2.2.2))] s.heap := hP
  have hD : va_D A [(a 0, .inr (1, [.ref (a 1), .ref (a 3), .int (B.1 0), .int (B.1 1), .int (B.1 2), .int (B.1 3), .int (B.1 4), .int (B.1 5), .int (B.1 6), .int (B.1 7), .int (B.1 8), .int (B.1 9), .int (B.1 10), .int (B.1 11), .int (B.1 12)])), (a 1, .inr (2, [.ref (a 2)])), (a 2, .inl (eI E, 11, .inl B.2.1)), (a 3, .inr (0, [.ref (a 4), .ref (a 5)])), (a 4, .inl (eJ E, 22, .inr (.inl B.2.2.1))), (a 5, .inl (eI E, 22, .inl B.2.2.2)), (d 0, .inr (1, [.ref (d 1), .ref (d 3), .int (G.1 0), .int (G.1 1), .int (G.1 2), .int (G.1 3), .int (G.1 4), .int (G.1 5), .int (G.1 6), .int (G.1 7), .int (G.1 8), .int (G.1 9), .int (G.1 10), .int (G.1 11), .int (G.1 12)])), (d 1, .inr (2, [.ref (d 2)])), (d 2, .inl (eI E, 11, .inl G.2.1)), (d 3, .inr (0, [.ref (d 4), .ref (d 5)])), (d 4, .inl (eJ E, 22, .inr (.inl G.2.2.1))), (d 5, .inl (eI E, 22, .inl G.2.2.2))] := hD
  have hl : lv_has ls 2 [(0, .ref (a 0)), (1, .ref (d 0))] := hl
  refine lv_aload_n (pc := 0) hx hb dX1_copyFrom_0 rfl (lv_at hl 0 rfl) ?_
  refine g_get (v := .ref (a 1)) (pc := 1) hx hb hts ii_X1_copyFrom_X1 hown hK.1 hP 0 rfl rfl 0 (by decide) ⟨rfl, rfl, rfl⟩ mm_X1_copyFrom_1 rfl dX1_copyFrom_1 ?_
  refine lv_aload_n (pc := 4) hx hb dX1_copyFrom_4 rfl (lv_at hl 1 rfl) ?_
  refine g_get (v := .ref (d 1)) (pc := 5) hx hb hts ii_X1_copyFrom_X1 hown hK.1 hP 6 rfl rfl 0 (by decide) ⟨rfl, rfl, rfl⟩ mm_X1_copyFrom_1 rfl dX1_copyFrom_5 ?_
  have hr8 := kX2_copyFrom l E (a 1) (a 2) (d 1) (d 2) B.2.1 G.2.1
  refine gcV_xz (pc := 8) (w1 := [(a 0, .inr (1, [.ref (a 1), .ref (a 3), .int (B.1 0), .int (B.1 1), .int (B.1 2), .int (B.1 3), .int (B.1 4), .int (B.1 5), .int (B.1 6), .int (B.1 7), .int (B.1 8), .int (B.1 9), .int (B.1 10), .int (B.1 11), .int (B.1 12)])), (a 1, .inr (2, [.ref (a 2)])), (a 2, .inl (eI E, 11, .inl (fX2_copyFrom B.2.1 G.2.1))), (a 3, .inr (0, [.ref (a 4), .ref (a 5)])), (a 4, .inl (eJ E, 22, .inr (.inl B.2.2.1))), (a 5, .inl (eI E, 22, .inl B.2.2.2)), (d 0, .inr (1, [.ref (d 1), .ref (d 3), .int (G.1 0), .int (G.1 1), .int (G.1 2), .int (G.1 3), .int (G.1 4), .int (G.1 5), .int (G.1 6), .int (G.1 7), .int (G.1 8), .int (G.1 9), .int (G.1 10), .int (G.1 11), .int (G.1 12)])), (d 1, .inr (2, [.ref (d 2)])), (d 2, .inl (eI E, 11, .inl G.2.1)), (d 3, .inr (0, [.ref (d 4), .ref (d 5)])), (d 4, .inl (eJ E, 22, .inr (.inl G.2.2.1))), (d 5, .inl (eI E, 22, .inl G.2.2.2))]) (P := [(a 0, .inr (1, [.ref (a 1), .ref (a 3), .int (B.1 0), .int (B.1 1), .int (B.1 2), .int (B.1 3), .int (B.1 4), .int (B.1 5), .int (B.1 6), .int (B.1 7), .int (B.1 8), .int (B.1 9), .int (B.1 10), .int (B.1 11), .int (B.1 12)]))]) (Y := [(a 3, .inr (0, [.ref (a 4), .ref (a 5)])), (a 4, .inl (eJ E, 22, .inr (.inl B.2.2.1))), (a 5, .inl (eI E, 22, .inl B.2.2.2)), (d 0, .inr (1, [.ref (d 1), .ref (d 3), .int (G.1 0), .int (G.1 1), .int (G.1 2), .int (G.1 3), .int (G.1 4), .int (G.1 5), .int (G.1 6), .int (G.1 7), .int (G.1 8), .int (G.1 9), .int (G.1 10), .int (G.1 11), .int (G.1 12)]))]) (T := [(d 3, .inr (0, [.ref (d 4), .ref (d 5)])), (d 4, .inl (eJ E, 22, .inr (.inl G.2.2.1))), (d 5, .inl (eI E, 22, .inl G.2.2.2))]) (As := [.ref (d 1)]) (rest := []) (q0 := 0) ⟨hx, hb, hml, hown, hts⟩ hr8 (cwV 1 hts gX1_copyFrom_X2_copyFrom rfl rfl rfl qvX2_copyFrom ⟨Nat.le_of_ble_eq_true rfl, Nat.le_of_ble_eq_true rfl⟩) hK hP hD hS hA rfl rfl rfl rfl rfl hl.1 rfl (Nat.le_of_ble_eq_true rfl) dX1_copyFrom_8 ⟨Nat.zero_le _, Nat.zero_le _⟩ (fun H locs hP hD hS => ?_)
  refine lv_aload_n (pc := 11) hx hb dX1_copyFrom_11 rfl (lv_at hl 0 rfl) ?_
  refine g_get (v := .ref (a 3)) (pc := 12) hx hb hts ii_X1_copyFrom_X1 hown hK.1 hP 0 rfl rfl 1 (by decide) ⟨rfl, rfl, rfl⟩ mm_X1_copyFrom_2 rfl dX1_copyFrom_12 ?_
  refine lv_aload_n (pc := 15) hx hb dX1_copyFrom_15 rfl (lv_at hl 1 rfl) ?_
  refine g_get (v := .ref (d 3)) (pc := 16) hx hb hts ii_X1_copyFrom_X1 hown hK.1 hP 6 rfl rfl 1 (by decide) ⟨rfl, rfl, rfl⟩ mm_X1_copyFrom_2 rfl dX1_copyFrom_16 ?_
  have hr19 := kX0_copyFrom l E (a 3) (a 4) (a 5) (d 3) (d 4) (d 5) B.2.2.1 B.2.2.2 G.2.2.1 G.2.2.2
  refine gcV_xz (pc := 19) (w1 := [(a 0, .inr (1, [.ref (a 1), .ref (a 3), .int (B.1 0), .int (B.1 1), .int (B.1 2), .int (B.1 3), .int (B.1 4), .int (B.1 5), .int (B.1 6), .int (B.1 7), .int (B.1 8), .int (B.1 9), .int (B.1 10), .int (B.1 11), .int (B.1 12)])), (a 1, .inr (2, [.ref (a 2)])), (a 2, .inl (eI E, 11, .inl (fX2_copyFrom B.2.1 G.2.1))), (a 3, .inr (0, [.ref (a 4), .ref (a 5)])), (a 4, .inl (eJ E, 22, .inr (.inl (fX0_copyFrom B.2.2.1 B.2.2.2 G.2.2.1 G.2.2.2).1))), (a 5, .inl (eI E, 22, .inl (fX0_copyFrom B.2.2.1 B.2.2.2 G.2.2.1 G.2.2.2).2)), (d 0, .inr (1, [.ref (d 1), .ref (d 3), .int (G.1 0), .int (G.1 1), .int (G.1 2), .int (G.1 3), .int (G.1 4), .int (G.1 5), .int (G.1 6), .int (G.1 7), .int (G.1 8), .int (G.1 9), .int (G.1 10), .int (G.1 11), .int (G.1 12)])), (d 1, .inr (2, [.ref (d 2)])), (d 2, .inl (eI E, 11, .inl G.2.1)), (d 3, .inr (0, [.ref (d 4), .ref (d 5)])), (d 4, .inl (eJ E, 22, .inr (.inl G.2.2.1))), (d 5, .inl (eI E, 22, .inl G.2.2.2))]) (P := [(a 0, .inr (1, [.ref (a 1), .ref (a 3), .int (B.1 0), .int (B.1 1), .int (B.1 2), .int (B.1 3), .int (B.1 4), .int (B.1 5), .int (B.1 6), .int (B.1 7), .int (B.1 8), .int (B.1 9), .int (B.1 10), .int (B.1 11), .int (B.1 12)])), (a 1, .inr (2, [.ref (a 2)])), (a 2, .inl (eI E, 11, .inl (fX2_copyFrom B.2.1 G.2.1)))]) (Y := [(d 0, .inr (1, [.ref (d 1), .ref (d 3), .int (G.1 0), .int (G.1 1), .int (G.1 2), .int (G.1 3), .int (G.1 4), .int (G.1 5), .int (G.1 6), .int (G.1 7), .int (G.1 8), .int (G.1 9), .int (G.1 10), .int (G.1 11), .int (G.1 12)])), (d 1, .inr (2, [.ref (d 2)])), (d 2, .inl (eI E, 11, .inl G.2.1))]) (T := []) (As := [.ref (d 3)]) (rest := []) (q0 := 0) ⟨hx, hb, hml, hown, hts⟩ hr19 (cwV 1 hts gX1_copyFrom_X0_copyFrom rfl rfl rfl qvX0_copyFrom ⟨Nat.le_of_ble_eq_true rfl, Nat.le_of_ble_eq_true rfl⟩) hK hP hD hS hA rfl rfl rfl rfl rfl hl.1 rfl (Nat.le_of_ble_eq_true rfl) dX1_copyFrom_19 ⟨Nat.zero_le _, Nat.zero_le _⟩ (fun H locs hP hD hS => ?_)
  refine lv_aload_n (pc := 22) hx hb dX1_copyFrom_22 rfl (lv_at hl 0 rfl) ?_
  refine lv_aload_n (pc := 23) hx hb dX1_copyFrom_23 rfl (lv_at hl 1 rfl) ?_
  refine g_get (v := .int (G.1 0)) (pc := 24) hx hb hts ii_X1_copyFrom_X1 hown hK.1 hP 6 rfl rfl 2 (by decide) ⟨rfl, rfl, rfl⟩ mm_X1_copyFrom_3 rfl dX1_copyFrom_24 ?_
  refine g_topi (fun x1 ex1 => ?_)
  refine g_put (w1 := [(a 0, .inr (1, [.ref (a 1), .ref (a 3), .int x1, .int (B.1 1), .int (B.1 2), .int (B.1 3), .int (B.1 4), .int (B.1 5), .int (B.1 6), .int (B.1 7), .int (B.1 8), .int (B.1 9), .int (B.1 10), .int (B.1 11), .int (B.1 12)])), (a 1, .inr (2, [.ref (a 2)])), (a 2, .inl (eI E, 11, .inl (fX2_copyFrom B.2.1 G.2.1))), (a 3, .inr (0, [.ref (a 4), .ref (a 5)])), (a 4, .inl (eJ E, 22, .inr (.inl (fX0_copyFrom B.2.2.1 B.2.2.2 G.2.2.1 G.2.2.2).1))), (a 5, .inl (eI E, 22, .inl (fX0_copyFrom B.2.2.1 B.2.2.2 G.2.2.1 G.2.2.2).2)), (d 0, .inr (1, [.ref (d 1), .ref (d 3), .int (G.1 0), .int (G.1 1), .int (G.1 2), .int (G.1 3), .int (G.1 4), .int (G.1 5), .int (G.1 6), .int (G.1 7), .int (G.1 8), .int (G.1 9), .int (G.1 10), .int (G.1 11), .int (G.1 12)])), (d 1, .inr (2, [.ref (d 2)])), (d 2, .inl (eI E, 11, .inl G.2.1)), (d 3, .inr (0, [.ref (d 4), .ref (d 5)])), (d 4, .inl (eJ E, 22, .inr (.inl G.2.2.1))), (d 5, .inl (eI E, 22, .inl G.2.2.2))]) (pc := 27) hx hb hts ii_X1_copyFrom_X1 tyX1 tyX1_ok nmX1 hown hK.1 hP hD hS 0 rfl rfl 2 (by decide) ⟨rfl, rfl, rfl⟩ mm_X1_copyFrom_3 rfl rfl rfl rfl (Nat.le_of_ble_eq_true rfl) rfl dX1_copyFrom_27 (fun H locs hP hD hS => ?_)
  refine lv_aload_n (pc := 30) hx hb dX1_copyFrom_30 rfl (lv_at hl 0 rfl) ?_
  refine lv_aload_n (pc := 31) hx hb dX1_copyFrom_31 rfl (lv_at hl 1 rfl) ?_
  refine g_get (v := .int (G.1 1)) (pc := 32) hx hb hts ii_X1_copyFrom_X1 hown hK.1 hP 6 rfl rfl 3 (by decide) ⟨rfl, rfl, rfl⟩ mm_X1_copyFrom_4 rfl dX1_copyFrom_32 ?_
  refine g_topi (fun x2 ex2 => ?_)
  refine g_put (w1 := [(a 0, .inr (1, [.ref (a 1), .ref (a 3), .int x1, .int x2, .int (B.1 2), .int (B.1 3), .int (B.1 4), .int (B.1 5), .int (B.1 6), .int (B.1 7), .int (B.1 8), .int (B.1 9), .int (B.1 10), .int (B.1 11), .int (B.1 12)])), (a 1, .inr (2, [.ref (a 2)])), (a 2, .inl (eI E, 11, .inl (fX2_copyFrom B.2.1 G.2.1))), (a 3, .inr (0, [.ref (a 4), .ref (a 5)])), (a 4, .inl (eJ E, 22, .inr (.inl (fX0_copyFrom B.2.2.1 B.2.2.2 G.2.2.1 G.2.2.2).1))), (a 5, .inl (eI E, 22, .inl (fX0_copyFrom B.2.2.1 B.2.2.2 G.2.2.1 G.2.2.2).2)), (d 0, .inr (1, [.ref (d 1), .ref (d 3), .int (G.1 0), .int (G.1 1), .int (G.1 2), .int (G.1 3), .int (G.1 4), .int (G.1 5), .int (G.1 6), .int (G.1 7), .int (G.1 8), .int (G.1 9), .int (G.1 10), .int (G.1 11), .int (G.1 12)])), (d 1, .inr (2, [.ref (d 2)])), (d 2, .inl (eI E, 11, .inl G.2.1)), (d 3, .inr (0, [.ref (d 4), .ref (d 5)])), (d 4, .inl (eJ E, 22, .inr (.inl G.2.2.1))), (d 5, .inl (eI E, 22, .inl G.2.2.2))]) (pc := 35) hx hb hts ii_X1_copyFrom_X1 tyX1 tyX1_ok nmX1 hown hK.1 hP hD hS 0 rfl rfl 3 (by decide) ⟨rfl, rfl, rfl⟩ mm_X1_copyFrom_4 rfl rfl rfl rfl (Nat.le_of_ble_eq_true rfl) rfl dX1_copyFrom_35 (fun H locs hP hD hS => ?_)
  refine lv_aload_n (pc := 38) hx hb dX1_copyFrom_38 rfl (lv_at hl 0 rfl) ?_
  refine lv_aload_n (pc := 39) hx hb dX1_copyFrom_39 rfl (lv_at hl 1 rfl) ?_
  refine g_get (v := .int (G.1 2)) (pc := 40) hx hb hts ii_X1_copyFrom_X1 hown hK.1 hP 6 rfl rfl 4 (by decide) ⟨rfl, rfl, rfl⟩ mm_X1_copyFrom_5 rfl dX1_copyFrom_40 ?_
  refine g_topi (fun x3 ex3 => ?_)
  refine g_put (w1 := [(a 0, .inr (1, [.ref (a 1), .ref (a 3), .int x1, .int x2, .int x3, .int (B.1 3), .int (B.1 4), .int (B.1 5), .int (B.1 6), .int (B.1 7), .int (B.1 8), .int (B.1 9), .int (B.1 10), .int (B.1 11), .int (B.1 12)])), (a 1, .inr (2, [.ref (a 2)])), (a 2, .inl (eI E, 11, .inl (fX2_copyFrom B.2.1 G.2.1))), (a 3, .inr (0, [.ref (a 4), .ref (a 5)])), (a 4, .inl (eJ E, 22, .inr (.inl (fX0_copyFrom B.2.2.1 B.2.2.2 G.2.2.1 G.2.2.2).1))), (a 5, .inl (eI E, 22, .inl (fX0_copyFrom B.2.2.1 B.2.2.2 G.2.2.1 G.2.2.2).2)), (d 0, .inr (1, [.ref (d 1), .ref (d 3), .int (G.1 0), .int (G.1 1), .int (G.1 2), .int (G.1 3), .int (G.1 4), .int (G.1 5), .int (G.1 6), .int (G.1 7), .int (G.1 8), .int (G.1 9), .int (G.1 10), .int (G.1 11), .int (G.1 12)])), (d 1, .inr (2, [.ref (d 2)])), (d 2, .inl (eI E, 11, .inl G.2.1)), (d 3, .inr (0, [.ref (d 4), .ref (d 5)])), (d 4, .inl (eJ E, 22, .inr (.inl G.2.2.1))), (d 5, .inl (eI E, 22, .inl G.2.2.2))]) (pc := 43) hx hb hts ii_X1_copyFrom_X1 tyX1 tyX1_ok nmX1 hown hK.1 hP hD hS 0 rfl rfl 4 (by decide) ⟨rfl, rfl, rfl⟩ mm_X1_copyFrom_5 rfl rfl rfl rfl (Nat.le_of_ble_eq_true rfl) rfl dX1_copyFrom_43 (fun H locs hP hD hS => ?_)
  refine lv_aload_n (pc := 46) hx hb dX1_copyFrom_46 rfl (lv_at hl 0 rfl) ?_
  refine lv_aload_n (pc := 47) hx hb dX1_copyFrom_47 rfl (lv_at hl 1 rfl) ?_
  refine g_get (v := .int (G.1 3)) (pc := 48) hx hb hts ii_X1_copyFrom_X1 hown hK.1 hP 6 rfl rfl 5 (by decide) ⟨rfl, rfl, rfl⟩ mm_X1_copyFrom_6 rfl dX1_copyFrom_48 ?_
  refine g_topi (fun x4 ex4 => ?_)
  refine g_put (w1 := [(a 0, .inr (1, [.ref (a 1), .ref (a 3), .int x1, .int x2, .int x3, .int x4, .int (B.1 4), .int (B.1 5), .int (B.1 6), .int (B.1 7), .int (B.1 8), .int (B.1 9), .int (B.1 10), .int (B.1 11), .int (B.1 12)])), (a 1, .inr (2, [.ref (a 2)])), (a 2, .inl (eI E, 11, .inl (fX2_copyFrom B.2.1 G.2.1))), (a 3, .inr (0, [.ref (a 4), .ref (a 5)])), (a 4, .inl (eJ E, 22, .inr (.inl (fX0_copyFrom B.2.2.1 B.2.2.2 G.2.2.1 G.2.2.2).1))), (a 5, .inl (eI E, 22, .inl (fX0_copyFrom B.2.2.1 B.2.2.2 G.2.2.1 G.2.2.2).2)), (d 0, .inr (1, [.ref (d 1), .ref (d 3), .int (G.1 0), .int (G.1 1), .int (G.1 2), .int (G.1 3), .int (G.1 4), .int (G.1 5), .int (G.1 6), .int (G.1 7), .int (G.1 8), .int (G.1 9), .int (G.1 10), .int (G.1 11), .int (G.1 12)])), (d 1, .inr (2, [.ref (d 2)])), (d 2, .inl (eI E, 11, .inl G.2.1)), (d 3, .inr (0, [.ref (d 4), .ref (d 5)])), (d 4, .inl (eJ E, 22, .inr (.inl G.2.2.1))), (d 5, .inl (eI E, 22, .inl G.2.2.2))]) (pc := 51) hx hb hts ii_X1_copyFrom_X1 tyX1 tyX1_ok nmX1 hown hK.1 hP hD hS 0 rfl rfl 5 (by decide) ⟨rfl, rfl, rfl⟩ mm_X1_copyFrom_6 rfl rfl rfl rfl (Nat.le_of_ble_eq_true rfl) rfl dX1_copyFrom_51 (fun H locs hP hD hS => ?_)
  refine lv_aload_n (pc := 54) hx hb dX1_copyFrom_54 rfl (lv_at hl 0 rfl) ?_
  refine lv_aload_n (pc := 55) hx hb dX1_copyFrom_55 rfl (lv_at hl 1 rfl) ?_
  refine g_get (v := .int (G.1 4)) (pc := 56) hx hb hts ii_X1_copyFrom_X1 hown hK.1 hP 6 rfl rfl 6 (by decide) ⟨rfl, rfl, rfl⟩ mm_X1_copyFrom_7 rfl dX1_copyFrom_56 ?_
  refine g_topi (fun x5 ex5 => ?_)
  refine g_put (w1 := [(a 0, .inr (1, [.ref (a 1), .ref (a 3), .int x1, .int x2, .int x3, .int x4, .int x5, .int (B.1 5), .int (B.1 6), .int (B.1 7), .int (B.1 8), .int (B.1 9), .int (B.1 10), .int (B.1 11), .int (B.1 12)])), (a 1, .inr (2, [.ref (a 2)])), (a 2, .inl (eI E, 11, .inl (fX2_copyFrom B.2.1 G.2.1))), (a 3, .inr (0, [.ref (a 4), .ref (a 5)])), (a 4, .inl (eJ E, 22, .inr (.inl (fX0_copyFrom B.2.2.1 B.2.2.2 G.2.2.1 G.2.2.2).1))), (a 5, .inl (eI E, 22, .inl (fX0_copyFrom B.2.2.1 B.2.2.2 G.2.2.1 G.2.2.2).2)), (d 0, .inr (1, [.ref (d 1), .ref (d 3), .int (G.1 0), .int (G.1 1), .int (G.1 2), .int (G.1 3), .int (G.1 4), .int (G.1 5), .int (G.1 6), .int (G.1 7), .int (G.1 8), .int (G.1 9), .int (G.1 10), .int (G.1 11), .int (G.1 12)])), (d 1, .inr (2, [.ref (d 2)])), (d 2, .inl (eI E, 11, .inl G.2.1)), (d 3, .inr (0, [.ref (d 4), .ref (d 5)])), (d 4, .inl (eJ E, 22, .inr (.inl G.2.2.1))), (d 5, .inl (eI E, 22, .inl G.2.2.2))]) (pc := 59) hx hb hts ii_X1_copyFrom_X1 tyX1 tyX1_ok nmX1 hown hK.1 hP hD hS 0 rfl rfl 6 (by decide) ⟨rfl, rfl, rfl⟩ mm_X1_copyFrom_7 rfl rfl rfl rfl (Nat.le_of_ble_eq_true rfl) rfl dX1_copyFrom_59 (fun H locs hP hD hS => ?_)
  refine lv_aload_n (pc := 62) hx hb dX1_copyFrom_62 rfl (lv_at hl 0 rfl) ?_
  refine lv_aload_n (pc := 63) hx hb dX1_copyFrom_63 rfl (lv_at hl 1 rfl) ?_
  refine g_get (v := .int (G.1 5)) (pc := 64) hx hb hts ii_X1_copyFrom_X1 hown hK.1 hP 6 rfl rfl 7 (by decide) ⟨rfl, rfl, rfl⟩ mm_X1_copyFrom_8 rfl dX1_copyFrom_64 ?_
  refine g_topi (fun x6 ex6 => ?_)
  refine g_put (w1 := [(a 0, .inr (1, [.ref (a 1), .ref (a 3), .int x1, .int x2, .int x3, .int x4, .int x5, .int x6, .int (B.1 6), .int (B.1 7), .int (B.1 8), .int (B.1 9), .int (B.1 10), .int (B.1 11), .int (B.1 12)])), (a 1, .inr (2, [.ref (a 2)])), (a 2, .inl (eI E, 11, .inl (fX2_copyFrom B.2.1 G.2.1))), (a 3, .inr (0, [.ref (a 4), .ref (a 5)])), (a 4, .inl (eJ E, 22, .inr (.inl (fX0_copyFrom B.2.2.1 B.2.2.2 G.2.2.1 G.2.2.2).1))), (a 5, .inl (eI E, 22, .inl (fX0_copyFrom B.2.2.1 B.2.2.2 G.2.2.1 G.2.2.2).2)), (d 0, .inr (1, [.ref (d 1), .ref (d 3), .int (G.1 0), .int (G.1 1), .int (G.1 2), .int (G.1 3), .int (G.1 4), .int (G.1 5), .int (G.1 6), .int (G.1 7), .int (G.1 8), .int (G.1 9), .int (G.1 10), .int (G.1 11), .int (G.1 12)])), (d 1, .inr (2, [.ref (d 2)])), (d 2, .inl (eI E, 11, .inl G.2.1)), (d 3, .inr (0, [.ref (d 4), .ref (d 5)])), (d 4, .inl (eJ E, 22, .inr (.inl G.2.2.1))), (d 5, .inl (eI E, 22, .inl G.2.2.2))]) (pc := 67) hx hb hts ii_X1_copyFrom_X1 tyX1 tyX1_ok nmX1 hown hK.1 hP hD hS 0 rfl rfl 7 (by decide) ⟨rfl, rfl, rfl⟩ mm_X1_copyFrom_8 rfl rfl rfl rfl (Nat.le_of_ble_eq_true rfl) rfl dX1_copyFrom_67 (fun H locs hP hD hS => ?_)
  refine lv_aload_n (pc := 70) hx hb dX1_copyFrom_70 rfl (lv_at hl 0 rfl) ?_
  refine lv_aload_n (pc := 71) hx hb dX1_copyFrom_71 rfl (lv_at hl 1 rfl) ?_
  refine g_get (v := .int (G.1 6)) (pc := 72) hx hb hts ii_X1_copyFrom_X1 hown hK.1 hP 6 rfl rfl 8 (by decide) ⟨rfl, rfl, rfl⟩ mm_X1_copyFrom_9 rfl dX1_copyFrom_72 ?_
  refine g_topi (fun x7 ex7 => ?_)
  refine g_put (w1 := [(a 0, .inr (1, [.ref (a 1), .ref (a 3), .int x1, .int x2, .int x3, .int x4, .int x5, .int x6, .int x7, .int (B.1 7), .int (B.1 8), .int (B.1 9), .int (B.1 10), .int (B.1 11), .int (B.1 12)])), (a 1, .inr (2, [.ref (a 2)])), (a 2, .inl (eI E, 11, .inl (fX2_copyFrom B.2.1 G.2.1))), (a 3, .inr (0, [.ref (a 4), .ref (a 5)])), (a 4, .inl (eJ E, 22, .inr (.inl (fX0_copyFrom B.2.2.1 B.2.2.2 G.2.2.1 G.2.2.2).1))), (a 5, .inl (eI E, 22, .inl (fX0_copyFrom B.2.2.1 B.2.2.2 G.2.2.1 G.2.2.2).2)), (d 0, .inr (1, [.ref (d 1), .ref (d 3), .int (G.1 0), .int (G.1 1), .int (G.1 2), .int (G.1 3), .int (G.1 4), .int (G.1 5), .int (G.1 6), .int (G.1 7), .int (G.1 8), .int (G.1 9), .int (G.1 10), .int (G.1 11), .int (G.1 12)])), (d 1, .inr (2, [.ref (d 2)])), (d 2, .inl (eI E, 11, .inl G.2.1)), (d 3, .inr (0, [.ref (d 4), .ref (d 5)])), (d 4, .inl (eJ E, 22, .inr (.inl G.2.2.1))), (d 5, .inl (eI E, 22, .inl G.2.2.2))]) (pc := 75) hx hb hts ii_X1_copyFrom_X1 tyX1 tyX1_ok nmX1 hown hK.1 hP hD hS 0 rfl rfl 8 (by decide) ⟨rfl, rfl, rfl⟩ mm_X1_copyFrom_9 rfl rfl rfl rfl (Nat.le_of_ble_eq_true rfl) rfl dX1_copyFrom_75 (fun H locs hP hD hS => ?_)
  refine lv_aload_n (pc := 78) hx hb dX1_copyFrom_78 rfl (lv_at hl 0 rfl) ?_
  refine lv_aload_n (pc := 79) hx hb dX1_copyFrom_79 rfl (lv_at hl 1 rfl) ?_
  refine g_get (v := .int (G.1 7)) (pc := 80) hx hb hts ii_X1_copyFrom_X1 hown hK.1 hP 6 rfl rfl 9 (by decide) ⟨rfl, rfl, rfl⟩ mm_X1_copyFrom_10 rfl dX1_copyFrom_80 ?_
  refine g_topi (fun x8 ex8 => ?_)
  refine g_put (w1 := [(a 0, .inr (1, [.ref (a 1), .ref (a 3), .int x1, .int x2, .int x3, .int x4, .int x5, .int x6, .int x7, .int x8, .int (B.1 8), .int (B.1 9), .int (B.1 10), .int (B.1 11), .int (B.1 12)])), (a 1, .inr (2, [.ref (a 2)])), (a 2, .inl (eI E, 11, .inl (fX2_copyFrom B.2.1 G.2.1))), (a 3, .inr (0, [.ref (a 4), .ref (a 5)])), (a 4, .inl (eJ E, 22, .inr (.inl (fX0_copyFrom B.2.2.1 B.2.2.2 G.2.2.1 G.2.2.2).1))), (a 5, .inl (eI E, 22, .inl (fX0_copyFrom B.2.2.1 B.2.2.2 G.2.2.1 G.2.2.2).2)), (d 0, .inr (1, [.ref (d 1), .ref (d 3), .int (G.1 0), .int (G.1 1), .int (G.1 2), .int (G.1 3), .int (G.1 4), .int (G.1 5), .int (G.1 6), .int (G.1 7), .int (G.1 8), .int (G.1 9), .int (G.1 10), .int (G.1 11), .int (G.1 12)])), (d 1, .inr (2, [.ref (d 2)])), (d 2, .inl (eI E, 11, .inl G.2.1)), (d 3, .inr (0, [.ref (d 4), .ref (d 5)])), (d 4, .inl (eJ E, 22, .inr (.inl G.2.2.1))), (d 5, .inl (eI E, 22, .inl G.2.2.2))]) (pc := 83) hx hb hts ii_X1_copyFrom_X1 tyX1 tyX1_ok nmX1 hown hK.1 hP hD hS 0 rfl rfl 9 (by decide) ⟨rfl, rfl, rfl⟩ mm_X1_copyFrom_10 rfl rfl rfl rfl (Nat.le_of_ble_eq_true rfl) rfl dX1_copyFrom_83 (fun H locs hP hD hS => ?_)
  refine lv_aload_n (pc := 86) hx hb dX1_copyFrom_86 rfl (lv_at hl 0 rfl) ?_
  refine lv_aload_n (pc := 87) hx hb dX1_copyFrom_87 rfl (lv_at hl 1 rfl) ?_
  refine g_get (v := .int (G.1 8)) (pc := 88) hx hb hts ii_X1_copyFrom_X1 hown hK.1 hP 6 rfl rfl 10 (by decide) ⟨rfl, rfl, rfl⟩ mm_X1_copyFrom_11 rfl dX1_copyFrom_88 ?_
  refine g_topi (fun x9 ex9 => ?_)
  refine g_put (w1 := [(a 0, .inr (1, [.ref (a 1), .ref (a 3), .int x1, .int x2, .int x3, .int x4, .int x5, .int x6, .int x7, .int x8, .int x9, .int (B.1 9), .int (B.1 10), .int (B.1 11), .int (B.1 12)])), (a 1, .inr (2, [.ref (a 2)])), (a 2, .inl (eI E, 11, .inl (fX2_copyFrom B.2.1 G.2.1))), (a 3, .inr (0, [.ref (a 4), .ref (a 5)])), (a 4, .inl (eJ E, 22, .inr (.inl (fX0_copyFrom B.2.2.1 B.2.2.2 G.2.2.1 G.2.2.2).1))), (a 5, .inl (eI E, 22, .inl (fX0_copyFrom B.2.2.1 B.2.2.2 G.2.2.1 G.2.2.2).2)), (d 0, .inr (1, [.ref (d 1), .ref (d 3), .int (G.1 0), .int (G.1 1), .int (G.1 2), .int (G.1 3), .int (G.1 4), .int (G.1 5), .int (G.1 6), .int (G.1 7), .int (G.1 8), .int (G.1 9), .int (G.1 10), .int (G.1 11), .int (G.1 12)])), (d 1, .inr (2, [.ref (d 2)])), (d 2, .inl (eI E, 11, .inl G.2.1)), (d 3, .inr (0, [.ref (d 4), .ref (d 5)])), (d 4, .inl (eJ E, 22, .inr (.inl G.2.2.1))), (d 5, .inl (eI E, 22, .inl G.2.2.2))]) (pc := 91) hx hb hts ii_X1_copyFrom_X1 tyX1 tyX1_ok nmX1 hown hK.1 hP hD hS 0 rfl rfl 10 (by decide) ⟨rfl, rfl, rfl⟩ mm_X1_copyFrom_11 rfl rfl rfl rfl (Nat.le_of_ble_eq_true rfl) rfl dX1_copyFrom_91 (fun H locs hP hD hS => ?_)
  refine lv_aload_n (pc := 94) hx hb dX1_copyFrom_94 rfl (lv_at hl 0 rfl) ?_
  refine lv_aload_n (pc := 95) hx hb dX1_copyFrom_95 rfl (lv_at hl 1 rfl) ?_
  refine g_get (v := .int (G.1 9)) (pc := 96) hx hb hts ii_X1_copyFrom_X1 hown hK.1 hP 6 rfl rfl 11 (by decide) ⟨rfl, rfl, rfl⟩ mm_X1_copyFrom_12 rfl dX1_copyFrom_96 ?_
  refine g_topi (fun x10 ex10 => ?_)
  refine g_put (w1 := [(a 0, .inr (1, [.ref (a 1), .ref (a 3), .int x1, .int x2, .int x3, .int x4, .int x5, .int x6, .int x7, .int x8, .int x9, .int x10, .int (B.1 10), .int (B.1 11), .int (B.1 12)])), (a 1, .inr (2, [.ref (a 2)])), (a 2, .inl (eI E, 11, .inl (fX2_copyFrom B.2.1 G.2.1))), (a 3, .inr (0, [.ref (a 4), .ref (a 5)])), (a 4, .inl (eJ E, 22, .inr (.inl (fX0_copyFrom B.2.2.1 B.2.2.2 G.2.2.1 G.2.2.2).1))), (a 5, .inl (eI E, 22, .inl (fX0_copyFrom B.2.2.1 B.2.2.2 G.2.2.1 G.2.2.2).2)), (d 0, .inr (1, [.ref (d 1), .ref (d 3), .int (G.1 0), .int (G.1 1), .int (G.1 2), .int (G.1 3), .int (G.1 4), .int (G.1 5), .int (G.1 6), .int (G.1 7), .int (G.1 8), .int (G.1 9), .int (G.1 10), .int (G.1 11), .int (G.1 12)])), (d 1, .inr (2, [.ref (d 2)])), (d 2, .inl (eI E, 11, .inl G.2.1)), (d 3, .inr (0, [.ref (d 4), .ref (d 5)])), (d 4, .inl (eJ E, 22, .inr (.inl G.2.2.1))), (d 5, .inl (eI E, 22, .inl G.2.2.2))]) (pc := 99) hx hb hts ii_X1_copyFrom_X1 tyX1 tyX1_ok nmX1 hown hK.1 hP hD hS 0 rfl rfl 11 (by decide) ⟨rfl, rfl, rfl⟩ mm_X1_copyFrom_12 rfl rfl rfl rfl (Nat.le_of_ble_eq_true rfl) rfl dX1_copyFrom_99 (fun H locs hP hD hS => ?_)
  refine lv_aload_n (pc := 102) hx hb dX1_copyFrom_102 rfl (lv_at hl 0 rfl) ?_
  refine lv_aload_n (pc := 103) hx hb dX1_copyFrom_103 rfl (lv_at hl 1 rfl) ?_
  refine g_get (v := .int (G.1 10)) (pc := 104) hx hb hts ii_X1_copyFrom_X1 hown hK.1 hP 6 rfl rfl 12 (by decide) ⟨rfl, rfl, rfl⟩ mm_X1_copyFrom_13 rfl dX1_copyFrom_104 ?_
  refine g_topi (fun x11 ex11 => ?_)
  refine g_put (w1 := [(a 0, .inr (1, [.ref (a 1), .ref (a 3), .int x1, .int x2, .int x3, .int x4, .int x5, .int x6, .int x7, .int x8, .int x9, .int x10, .int x11, .int (B.1 11), .int (B.1 12)])), (a 1, .inr (2, [.ref (a 2)])), (a 2, .inl (eI E, 11, .inl (fX2_copyFrom B.2.1 G.2.1))), (a 3, .inr (0, [.ref (a 4), .ref (a 5)])), (a 4, .inl (eJ E, 22, .inr (.inl (fX0_copyFrom B.2.2.1 B.2.2.2 G.2.2.1 G.2.2.2).1))), (a 5, .inl (eI E, 22, .inl (fX0_copyFrom B.2.2.1 B.2.2.2 G.2.2.1 G.2.2.2).2)), (d 0, .inr (1, [.ref (d 1), .ref (d 3), .int (G.1 0), .int (G.1 1), .int (G.1 2), .int (G.1 3), .int (G.1 4), .int (G.1 5), .int (G.1 6), .int (G.1 7), .int (G.1 8), .int (G.1 9), .int (G.1 10), .int (G.1 11), .int (G.1 12)])), (d 1, .inr (2, [.ref (d 2)])), (d 2, .inl (eI E, 11, .inl G.2.1)), (d 3, .inr (0, [.ref (d 4), .ref (d 5)])), (d 4, .inl (eJ E, 22, .inr (.inl G.2.2.1))), (d 5, .inl (eI E, 22, .inl G.2.2.2))]) (pc := 107) hx hb hts ii_X1_copyFrom_X1 tyX1 tyX1_ok nmX1 hown hK.1 hP hD hS 0 rfl rfl 12 (by decide) ⟨rfl, rfl, rfl⟩ mm_X1_copyFrom_13 rfl rfl rfl rfl (Nat.le_of_ble_eq_true rfl) rfl dX1_copyFrom_107 (fun H locs hP hD hS => ?_)
  refine lv_aload_n (pc := 110) hx hb dX1_copyFrom_110 rfl (lv_at hl 0 rfl) ?_
  refine lv_aload_n (pc := 111) hx hb dX1_copyFrom_111 rfl (lv_at hl 1 rfl) ?_
  refine g_get (v := .int (G.1 11)) (pc := 112) hx hb hts ii_X1_copyFrom_X1 hown hK.1 hP 6 rfl rfl 13 (by decide) ⟨rfl, rfl, rfl⟩ mm_X1_copyFrom_14 rfl dX1_copyFrom_112 ?_
  refine g_topi (fun x12 ex12 => ?_)
  refine g_put (w1 := [(a 0, .inr (1, [.ref (a 1), .ref (a 3), .int x1, .int x2, .int x3, .int x4, .int x5, .int x6, .int x7, .int x8, .int x9, .int x10, .int x11, .int x12, .int (B.1 12)])), (a 1, .inr (2, [.ref (a 2)])), (a 2, .inl (eI E, 11, .inl (fX2_copyFrom B.2.1 G.2.1))), (a 3, .inr (0, [.ref (a 4), .ref (a 5)])), (a 4, .inl (eJ E, 22, .inr (.inl (fX0_copyFrom B.2.2.1 B.2.2.2 G.2.2.1 G.2.2.2).1))), (a 5, .inl (eI E, 22, .inl (fX0_copyFrom B.2.2.1 B.2.2.2 G.2.2.1 G.2.2.2).2)), (d 0, .inr (1, [.ref (d 1), .ref (d 3), .int (G.1 0), .int (G.1 1), .int (G.1 2), .int (G.1 3), .int (G.1 4), .int (G.1 5), .int (G.1 6), .int (G.1 7), .int (G.1 8), .int (G.1 9), .int (G.1 10), .int (G.1 11), .int (G.1 12)])), (d 1, .inr (2, [.ref (d 2)])), (d 2, .inl (eI E, 11, .inl G.2.1)), (d 3, .inr (0, [.ref (d 4), .ref (d 5)])), (d 4, .inl (eJ E, 22, .inr (.inl G.2.2.1))), (d 5, .inl (eI E, 22, .inl G.2.2.2))]) (pc := 115) hx hb hts ii_X1_copyFrom_X1 tyX1 tyX1_ok nmX1 hown hK.1 hP hD hS 0 rfl rfl 13 (by decide) ⟨rfl, rfl, rfl⟩ mm_X1_copyFrom_14 rfl rfl rfl rfl (Nat.le_of_ble_eq_true rfl) rfl dX1_copyFrom_115 (fun H locs hP hD hS => ?_)
  refine lv_aload_n (pc := 118) hx hb dX1_copyFrom_118 rfl (lv_at hl 0 rfl) ?_
  refine lv_aload_n (pc := 119) hx hb dX1_copyFrom_119 rfl (lv_at hl 1 rfl) ?_
  refine g_get (v := .int (G.1 12)) (pc := 120) hx hb hts ii_X1_copyFrom_X1 hown hK.1 hP 6 rfl rfl 14 (by decide) ⟨rfl, rfl, rfl⟩ mm_X1_copyFrom_15 rfl dX1_copyFrom_120 ?_
  refine g_topi (fun x13 ex13 => ?_)
  refine g_put (w1 := [(a 0, .inr (1, [.ref (a 1), .ref (a 3), .int x1, .int x2, .int x3, .int x4, .int x5, .int x6, .int x7, .int x8, .int x9, .int x10, .int x11, .int x12, .int x13])), (a 1, .inr (2, [.ref (a 2)])), (a 2, .inl (eI E, 11, .inl (fX2_copyFrom B.2.1 G.2.1))), (a 3, .inr (0, [.ref (a 4), .ref (a 5)])), (a 4, .inl (eJ E, 22, .inr (.inl (fX0_copyFrom B.2.2.1 B.2.2.2 G.2.2.1 G.2.2.2).1))), (a 5, .inl (eI E, 22, .inl (fX0_copyFrom B.2.2.1 B.2.2.2 G.2.2.1 G.2.2.2).2)), (d 0, .inr (1, [.ref (d 1), .ref (d 3), .int (G.1 0), .int (G.1 1), .int (G.1 2), .int (G.1 3), .int (G.1 4), .int (G.1 5), .int (G.1 6), .int (G.1 7), .int (G.1 8), .int (G.1 9), .int (G.1 10), .int (G.1 11), .int (G.1 12)])), (d 1, .inr (2, [.ref (d 2)])), (d 2, .inl (eI E, 11, .inl G.2.1)), (d 3, .inr (0, [.ref (d 4), .ref (d 5)])), (d 4, .inl (eJ E, 22, .inr (.inl G.2.2.1))), (d 5, .inl (eI E, 22, .inl G.2.2.2))]) (pc := 123) hx hb hts ii_X1_copyFrom_X1 tyX1 tyX1_ok nmX1 hown hK.1 hP hD hS 0 rfl rfl 14 (by decide) ⟨rfl, rfl, rfl⟩ mm_X1_copyFrom_15 rfl rfl rfl rfl (Nat.le_of_ble_eq_true rfl) rfl dX1_copyFrom_123 (fun H locs hP hD hS => ?_)
  subst ex13
  subst ex12
  subst ex11
  subst ex10
  subst ex9
  subst ex8
  subst ex7
  subst ex6
  subst ex5
  subst ex4
  subst ex3
  subst ex2
  subst ex1
  exact hQ _ _ _ _ hP hD hS dX1_copyFrom_126
