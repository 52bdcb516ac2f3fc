/-! the states; the whole object -/
abbrev wRg (E : gEnv) (rr : Nat → Nat → Nat) (Bt : Nat → Bat) : va_W := wB E (rr 0) (Bt 0) ++ (wB E (rr 1) (Bt 1) ++ (wB E (rr 2) (Bt 2) ++ (wB E (rr 3) (Bt 3) ++ (wB E (rr 4) (Bt 4) ++ wB E (rr 5) (Bt 5)))))
abbrev wSt (E : gEnv) (u0 u1 j : Nat) (sz : Int32) (rr : Nat → Nat → Nat) (Bt : Nat → Bat) : va_W := (u0, .inr (3, [.ref u1, .int (nI j), .int sz])) :: ((u1, .inl (eO E, 6, .inr (.inr (.inr (.inr (fun k => some (rr k 0))))))) :: wRg E rr Bt)
/-- counts of what was refused; battery; place of the mark; states; what they hold; text -/
abbrev GS : Type := (Nat → Int32) × Bat × Nat × Int32 × (Nat → Bat) × Txt
abbrev wG (E : gEnv) (g0 : Nat) (b : Nat → Nat) (u0 u1 : Nat) (rr : Nat → Nat → Nat) (t : Nat → Nat) (G : GS) : va_W := (g0, .inr (5, [.ref (b 0), .ref u0, .ref (t 0), .int (G.1 0), .int (G.1 1), .int (G.1 2)])) :: (wB E b G.2.1 ++ ((u0, .inr (3, [.ref u1, .int (nI G.2.2.1), .int G.2.2.2.1])) :: ((u1, .inl (eO E, 6, .inr (.inr (.inr (.inr (fun k => some (rr k 0))))))) :: (wRg E rr G.2.2.2.2.1 ++ wT E t G.2.2.2.2.2))))
section GR2
variable {p : Program} {l : Launch} {e : Env} {R : Room} {s : State} {m : MethodId} {args : Array Value} {below : List Frame} {meth : Method} {c : Code} {H H0 : Heap} {locs : List Loc} {cells slots : Nat} {Q : State → Prop}
variable {D : va_G} {cl : List vw_C} {tys : List (ClassId × FieldType)} {ws w1 : va_W} {A : Nat → Prop} {cc : ByteArray} {pc a : Nat} {ls : Array Slot} {rest : List Value}
theorem g_aald (hx : p.tables.exec = Jvm.exec) (hb : c.code = cc) (hK : va_K D cl tys s) (hP : va_P D cl ws H) (q0 t0 : Nat) {cA : ClassId} {C : String} {n : Nat} {f : Nat → Option Nat} (ha : ws[q0]? = some (a, .inl (cA, n, .inr (.inr (.inr (.inr f)))))) (ht : tys[t0]? = some (cA, .object C)) {i : Int32} (hin : vp_in i n) {j : Nat} (hj : i.toNatClampNeg = j) {v : Nat} (hv : f j = some v) (hdg : decode cc pc = .ok (.aaload, 1))
    (kk : W p l e R s m args below meth c H locs cells slots Q (F0 m (pc + 1) ls (.ref v :: rest))) : W p l e R s m args below meth c H locs cells slots Q (F0 m pc ls (.int i :: .ref a :: rest)) := by
  refine va_aldq hx hb hK hP q0 t0 ha ht hin hdg ?_
  rw [hj, hv]
  exact kk
end GR2
section CALLS0
variable {p : Program} {l : Launch} {e : Env} {R : Room} {s : State} {m : MethodId} {args : Array Value} {below : List Frame} {meth : Method} {c : Code} {H : Heap} {locs : List Loc} {cells slots : Nat} {Q : State → Prop}
variable {E : gEnv} {A : Nat → Prop} {cc bytes : ByteArray} {nL maxL index n pc : Nat} {Ts ws2 : List Cond} {rm2 : Room} {own C : String} {y : MethodName} {ret : Option FieldType} {b : Nat} {As rest st : List Value} {ls : Array Slot} {w wc wc' w1 : va_W} {fs : List Value} {T : u_T} {N q0 ci : Nat}
theorem gcVi0 {f : Int32} (S : CallFix p m c cc nL s args Ts own) (hM : gMi l E y ws2 rm2 (.ref b :: As) wc f wc') (cw : CallW R s args own C index y bytes maxL ret ws2 rm2 0 0 n) (hK : gKn E s) (hP : va_P E.1 vwCl w H) (hD : va_D A w) (hS : va_S A s.heap H locs) (hA : ∀ q, s.heap.size ≤ q → A q) (hw : w = wc) (hw1 : wc' = w1) (hq : wc[q0]? = some (b, .inr (ci, fs))) (hc : vwCl[ci]? = some (C, T, N)) (hn : As.length = n) (hsz : ls.size = nL) (hst : st = As.reverse ++ .ref b :: rest) (hrm : (rest.map fun v => v.category).sum ≤ 8) (hdg : decode cc pc = .ok (.invokevirtual index, 3)) (hf : cells ≤ R.cells ∧ slots ≤ R.slots)
    (kk : ∀ (H1 : Heap) (locs1 : List Loc), va_P E.1 vwCl w1 H1 → va_D A w1 → va_S A s.heap H1 locs1 → W p l e R s m args below meth c H1 locs1 cells slots Q (F0 m (pc + 3) ls (.int f :: rest))) : W p l e R s m args below meth c H locs cells slots Q (F0 m pc ls st) :=
  gcVi (pre := []) (post := []) (w1 := w1) S hM cw hK hP hD hS hA (by rw [hw, List.nil_append, List.append_nil]) (by rw [hw1, List.nil_append, List.append_nil]) hq hc hn hsz hst hrm hdg hf kk
theorem gcVv0 (S : CallFix p m c cc nL s args Ts own) (hM : gMv l E y ws2 rm2 (.ref b :: As) wc wc') (cw : CallW R s args own C index y bytes maxL ret ws2 rm2 0 0 n) (hK : gKn E s) (hP : va_P E.1 vwCl w H) (hD : va_D A w) (hS : va_S A s.heap H locs) (hA : ∀ q, s.heap.size ≤ q → A q) (hw : w = wc) (hw1 : wc' = w1) (hq : wc[q0]? = some (b, .inr (ci, fs))) (hc : vwCl[ci]? = some (C, T, N)) (hn : As.length = n) (hsz : ls.size = nL) (hst : st = As.reverse ++ .ref b :: rest) (hrm : (rest.map fun v => v.category).sum ≤ 8) (hdg : decode cc pc = .ok (.invokevirtual index, 3)) (hf : cells ≤ R.cells ∧ slots ≤ R.slots)
    (kk : ∀ (H1 : Heap) (locs1 : List Loc), va_P E.1 vwCl w1 H1 → va_D A w1 → va_S A s.heap H1 locs1 → W p l e R s m args below meth c H1 locs1 cells slots Q (F0 m (pc + 3) ls rest)) : W p l e R s m args below meth c H locs cells slots Q (F0 m pc ls st) :=
  gcVv (pre := []) (post := []) (w1 := w1) S hM cw hK hP hD hS hA (by rw [hw, List.nil_append, List.append_nil]) (by rw [hw1, List.nil_append, List.append_nil]) hq hc hn hsz hst hrm hdg hf kk
end CALLS0
theorem km_1 {j : Nat} (h : j < 6) : (nI j + 1) - (nI j + 1) / 6 * 6 = nI ((j + 1) % 6) := by
  rw [nI_1 j, show (6 : Int32) = nI 6 from rfl]; exact pk_rem (by omega) (by decide) (by decide)
theorem km_5 {j : Nat} (h : j < 6) : (nI j + 6 - 1) - (nI j + 6 - 1) / 6 * 6 = nI ((j + 5) % 6) := by
  have h1 : nI j + 6 - 1 = nI (j + 5) := by rw [show (6 : Int32) = nI 6 from rfl, nI_add, show (1 : Int32) = nI 1 from rfl, pk_sub (by omega)]; rfl
  rw [h1, show (6 : Int32) = nI 6 from rfl]; exact pk_rem (by omega) (by decide) (by decide)

def fX3_size (sz : Int32) : Int32 :=
  sz
abbrev rX3_size : Room := { frames := 0, cells := 0, slots := 0, locals := 0 }
theorem mm_X3_size_1 : Cond.fieldLink RX3 16 "GaugeBounds$States" "size" "I" ∈ wsX3_size := List.mem_of_getElem? (i := 1) rfl
theorem ii_X3_size_X3 : ∀ w ∈ wsX30, w ∈ wsX3_size := fun _ h => List.mem_cons_of_mem _ (List.mem_append_right _ (h))
theorem qvX3_size : yX3_size.cls = RX3 ∧ yX3_size.cls ≠ "java/lang/invoke/MethodHandle" ∧ yX3_size.cls ≠ "java/lang/invoke/VarHandle" ∧ (parseMethodDescriptor yX3_size.desc).map (fun d => d.parameters.length) = some 0 := by decide +kernel
set_option maxHeartbeats 4000000 in
set_option maxRecDepth 100000 in
theorem kX3_size (l : Launch) (E : gEnv) (u0 u1 : Nat) (j : Nat) (sz : Int32) : gMi l E yX3_size wsX3_size rX3_size [.ref u0] [(u0, .inr (3, [.ref u1, .int (nI j), .int sz]))] (fX3_size sz) [(u0, .inr (3, [.ref u1, .int (nI j), .int sz]))] := by
  refine gMi_of (cc := cX3_size) (maxL := 1) (ret := (some .int)) (by decide) rfl rfl (Nat.le_of_ble_eq_true rfl) ?_
  intro p e s m args below meth c A Q ls hB hQ
  obtain ⟨hx, hb, hml, hown, hts, hK, hP, hD, hA, hS, hl⟩ := hB
  have hown : s.vm.findClass RX3 = some m.cls := hown
  have hP : va_P E.1 vwCl [(u0, .inr (3, [.ref u1, .int (nI j), .int sz]))] s.heap := hP
  have hD : va_D A [(u0, .inr (3, [.ref u1, .int (nI j), .int sz]))] := hD
  have hl : lv_has ls 1 [(0, .ref u0)] := hl
  refine lv_aload_n (pc := 0) hx hb dX3_size_0 rfl (lv_at hl 0 rfl) ?_
  refine g_get (v := .int sz) (pc := 1) hx hb hts ii_X3_size_X3 hown hK.1 hP 0 rfl rfl 2 (by decide) ⟨rfl, rfl, rfl⟩ mm_X3_size_1 rfl dX3_size_1 ?_
  exact hQ _ _ _ _ _ rfl hP hD hS dX3_size_4

def fX3_keepMarked (j : Nat) (sz : Int32) : Nat × Int32 :=
  let x1 : Int32 := (if 5 < (sz + 1) then 5 else (sz + 1))
  ((j + 1) % 6, x1)
abbrev rX3_keepMarked : Room := { frames := 1, cells := 0, slots := 0, locals := 14 }
theorem mm_X3_keepMarked_1 : Cond.fieldLink RX3 20 "GaugeBounds$States" "marked" "I" ∈ wsX3_keepMarked := List.mem_of_getElem? (i := 1) rfl
theorem mm_X3_keepMarked_2 : Cond.fieldLink RX3 16 "GaugeBounds$States" "size" "I" ∈ wsX3_keepMarked := List.mem_of_getElem? (i := 2) rfl
theorem mm_X3_keepMarked_3 : Cond.methodLink RX3 27 Lib.Math.min.name ∈ wsX3_keepMarked := List.mem_of_getElem? (i := 3) rfl
theorem mm_X3_keepMarked_4 : Cond.static Lib.Math.min.name ∈ wsX3_keepMarked := List.mem_of_getElem? (i := 4) rfl
theorem mm_X3_keepMarked_5 : Cond.initialized "java/lang/Math" ∈ wsX3_keepMarked := List.mem_of_getElem? (i := 5) rfl
theorem mm_X3_keepMarked_6 : Cond.code Lib.Math.min.name Lib.Math.min.code 2 (some .int) ∈ wsX3_keepMarked := List.mem_of_getElem? (i := 6) rfl
theorem ii_X3_keepMarked_X3 : ∀ w ∈ wsX30, w ∈ wsX3_keepMarked := fun _ h => List.mem_cons_of_mem _ (List.mem_append_right _ (h))
theorem qvX3_keepMarked : yX3_keepMarked.cls = RX3 ∧ yX3_keepMarked.cls ≠ "java/lang/invoke/MethodHandle" ∧ yX3_keepMarked.cls ≠ "java/lang/invoke/VarHandle" ∧ (parseMethodDescriptor yX3_keepMarked.desc).map (fun d => d.parameters.length) = some 0 := by decide +kernel
set_option maxHeartbeats 4000000 in
set_option maxRecDepth 100000 in
theorem kX3_keepMarked (l : Launch) (E : gEnv) (u0 u1 : Nat) (j : Nat) (sz : Int32) (hj : j < 6) : gMv l E yX3_keepMarked wsX3_keepMarked rX3_keepMarked [.ref u0] [(u0, .inr (3, [.ref u1, .int (nI j), .int sz]))] [(u0, .inr (3, [.ref u1, .int (nI ((fX3_keepMarked j sz).1)), .int ((fX3_keepMarked j sz).2)]))] := by
  refine gMv_of (cc := cX3_keepMarked) (maxL := 1) (ret := none) (by decide) rfl rfl (Nat.le_of_ble_eq_true rfl) ?_
  intro p e s m args below meth c A Q ls hB hQ
  obtain ⟨hx, hb, hml, hown, hts, hK, hP, hD, hA, hS, hl⟩ := hB
  have hown : s.vm.findClass RX3 = some m.cls := hown
  have hP : va_P E.1 vwCl [(u0, .inr (3, [.ref u1, .int (nI j), .int sz]))] s.heap := hP
  have hD : va_D A [(u0, .inr (3, [.ref u1, .int (nI j), .int sz]))] := hD
  have hl : lv_has ls 1 [(0, .ref u0)] := hl
  refine lv_aload_n (pc := 0) hx hb dX3_keepMarked_0 rfl (lv_at hl 0 rfl) ?_
  refine lv_aload_n (pc := 1) hx hb dX3_keepMarked_1 rfl (lv_at hl 0 rfl) ?_
  refine g_get (v := .int (nI j)) (pc := 2) hx hb hts ii_X3_keepMarked_X3 hown hK.1 hP 0 rfl rfl 1 (by decide) ⟨rfl, rfl, rfl⟩ mm_X3_keepMarked_1 rfl dX3_keepMarked_2 ?_
  refine lv_iconst (v := 1) (pc := 5) hx hb dX3_keepMarked_5 rfl ?_
  refine lv_iadd (pc := 6) hx hb dX3_keepMarked_6 ?_
  refine lv_bipush (v := 6) (pc := 7) hx hb dX3_keepMarked_7 rfl ?_
  refine lv_irem (pc := 9) hx hb dX3_keepMarked_9 (by decide) ?_
  rw [km_1 hj]
  refine g_put (w1 := [(u0, .inr (3, [.ref u1, .int (nI ((j + 1) % 6)), .int sz]))]) (pc := 10) hx hb hts ii_X3_keepMarked_X3 tyX3 tyX3_ok nmX3 hown hK.1 hP hD hS 0 rfl rfl 1 (by decide) ⟨rfl, rfl, rfl⟩ mm_X3_keepMarked_1 rfl rfl rfl rfl (Nat.le_of_ble_eq_true rfl) rfl dX3_keepMarked_10 (fun H locs hP hD hS => ?_)
  refine lv_aload_n (pc := 13) hx hb dX3_keepMarked_13 rfl (lv_at hl 0 rfl) ?_
  refine lv_aload_n (pc := 14) hx hb dX3_keepMarked_14 rfl (lv_at hl 0 rfl) ?_
  refine g_get (v := .int sz) (pc := 15) hx hb hts ii_X3_keepMarked_X3 hown hK.1 hP 0 rfl rfl 2 (by decide) ⟨rfl, rfl, rfl⟩ mm_X3_keepMarked_2 rfl dX3_keepMarked_15 ?_
  refine lv_iconst (v := 1) (pc := 18) hx hb dX3_keepMarked_18 rfl ?_
  refine lv_iadd (pc := 19) hx hb dX3_keepMarked_19 ?_
  refine lv_iconst (v := 5) (pc := 20) hx hb dX3_keepMarked_20 rfl ?_
  refine va_mmin (pc := 21) hx hb (hml.trans hl.1.symm) hown (hts _ mm_X3_keepMarked_3) (hts _ mm_X3_keepMarked_4) (hts _ mm_X3_keepMarked_5) (hts _ mm_X3_keepMarked_6) (Nat.le_of_ble_eq_true rfl) (Nat.le_of_ble_eq_true rfl) (Nat.zero_le _) (Nat.zero_le _) dX3_keepMarked_21 ?_
  refine g_topi (fun x1 ex1 => ?_)
  refine g_put (w1 := [(u0, .inr (3, [.ref u1, .int (nI ((j + 1) % 6)), .int x1]))]) (pc := 24) hx hb hts ii_X3_keepMarked_X3 tyX3 tyX3_ok nmX3 hown hK.1 hP hD hS 0 rfl rfl 2 (by decide) ⟨rfl, rfl, rfl⟩ mm_X3_keepMarked_2 rfl rfl rfl rfl (Nat.le_of_ble_eq_true rfl) rfl dX3_keepMarked_24 (fun H locs hP hD hS => ?_)
  subst ex1
  exact hQ _ _ _ _ hP hD hS dX3_keepMarked_27

def fX3_mark (B : Bat) (j : Nat) (sz : Int32) (Bt : Nat → Bat) : Nat → Bat :=
  (va_up Bt j (fX1_copyFrom (Bt j) B))
abbrev rX3_mark : Room := { frames := 3, cells := 0, slots := 0, locals := 60 }
theorem mm_X3_mark_1 : Cond.fieldLink RX3 11 "GaugeBounds$States" "ring" "[LGaugeBounds$Battery;" ∈ wsX3_mark := List.mem_of_getElem? (i := 1) rfl
theorem mm_X3_mark_2 : Cond.fieldLink RX3 20 "GaugeBounds$States" "marked" "I" ∈ wsX3_mark := List.mem_of_getElem? (i := 2) rfl
theorem ii_X3_mark_X3 : ∀ w ∈ wsX30, w ∈ wsX3_mark := fun _ h => List.mem_cons_of_mem _ (List.mem_append_left _ (List.mem_append_left _ (List.mem_append_left _ (List.mem_append_right _ (h)))))
theorem qvX3_mark : yX3_mark.cls = RX3 ∧ yX3_mark.cls ≠ "java/lang/invoke/MethodHandle" ∧ yX3_mark.cls ≠ "java/lang/invoke/VarHandle" ∧ (parseMethodDescriptor yX3_mark.desc).map (fun d => d.parameters.length) = some 1 := by decide +kernel
set_option maxHeartbeats 4000000 in
set_option maxRecDepth 100000 in
theorem kX3_mark (l : Launch) (E : gEnv) (b : Nat → Nat) (u0 u1 : Nat) (rr : Nat → Nat → Nat) (B : Bat) (j : Nat) (sz : Int32) (Bt : Nat → Bat) (hj : j < 6) : gMv l E yX3_mark wsX3_mark rX3_mark [.ref u0, .ref (b 0)] (wB E b B ++ wSt E u0 u1 j sz rr Bt) (wB E b B ++ wSt E u0 u1 j sz rr (fX3_mark B j sz Bt)) := by
  refine gMv_of (cc := cX3_mark) (maxL := 2) (ret := none) (by decide) rfl rfl (Nat.le_of_ble_eq_true rfl) ?_
  intro p e s m args below meth c A Q ls hB hQ
  obtain ⟨hx, hb, hml, hown, hts, hK, hP, hD, hA, hS, hl⟩ := hB
  have hown : s.vm.findClass RX3 = some m.cls := hown
  have hP : va_P E.1 vwCl ((wB E b B) ++ ((u0, .inr (3, [.ref u1, .int (nI j), .int sz])) :: ((u1, .inl (eO E, 6, .inr (.inr (.inr (.inr (fun k => some (rr k 0))))))) :: (wRg E rr Bt)))) s.heap := hP
  have hD : va_D A ((wB E b B) ++ ((u0, .inr (3, [.ref u1, .int (nI j), .int sz])) :: ((u1, .inl (eO E, 6, .inr (.inr (.inr (.inr (fun k => some (rr k 0))))))) :: (wRg E rr Bt)))) := hD
  have hl : lv_has ls 2 [(0, .ref u0), (1, .ref (b 0))] := hl
  refine lv_aload_n (pc := 0) hx hb dX3_mark_0 rfl (lv_at hl 0 rfl) ?_
  refine g_get (v := .ref u1) (pc := 1) hx hb hts ii_X3_mark_X3 hown hK.1 hP 6 rfl rfl 0 (by decide) ⟨rfl, rfl, rfl⟩ mm_X3_mark_1 rfl dX3_mark_1 ?_
  refine lv_aload_n (pc := 4) hx hb dX3_mark_4 rfl (lv_at hl 0 rfl) ?_
  refine g_get (v := .int (nI j)) (pc := 5) hx hb hts ii_X3_mark_X3 hown hK.1 hP 6 rfl rfl 1 (by decide) ⟨rfl, rfl, rfl⟩ mm_X3_mark_2 rfl dX3_mark_5 ?_
  refine g_aald (j := j) (v := rr j 0) (pc := 8) hx hb hK.1 hP 7 3 rfl rfl (vp_in_nI hj (by decide)) (nI_clamp (by omega)) rfl dX3_mark_8 ?_
  refine lv_aload_n (pc := 9) hx hb dX3_mark_9 rfl (lv_at hl 1 rfl) ?_
  obtain ⟨jj, ejj⟩ : ∃ z : Nat, j = z := ⟨_, rfl⟩
  have hjj : jj < 6 := by rw [← ejj]; exact hj
  rw [ejj] at hP hD ⊢
  have go : ∀ (H1 : Heap) (locs1 : List Loc), va_P E.1 vwCl ((wB E b B) ++ ((u0, .inr (3, [.ref u1, .int (nI jj), .int sz])) :: ((u1, .inl (eO E, 6, .inr (.inr (.inr (.inr (fun k => some (rr k 0))))))) :: (wRg E rr (va_up Bt jj (fX1_copyFrom (Bt jj) B)))))) H1 → va_D A ((wB E b B) ++ ((u0, .inr (3, [.ref u1, .int (nI jj), .int sz])) :: ((u1, .inl (eO E, 6, .inr (.inr (.inr (.inr (fun k => some (rr k 0))))))) :: (wRg E rr (va_up Bt jj (fX1_copyFrom (Bt jj) B)))))) → va_S A s.heap H1 locs1 → W p l e rX3_mark s m args below meth c H1 locs1 0 0 Q (F0 m 13 ls []) := by
    intro H locs hP hD hS
    rw [← ejj] at hP hD
    exact hQ _ _ _ _ hP hD hS dX3_mark_13
  rcases (show jj = 0 ∨ jj = 1 ∨ jj = 2 ∨ jj = 3 ∨ jj = 4 ∨ jj = 5 by omega) with h | h | h | h | h | h
  · clear ejj hjj; subst h
    have hr := kX1_copyFrom l E (rr 0) b (Bt 0) B
    exact gcV_zx (pc := 10) (P := []) (Y := ((u0, .inr (3, [.ref u1, .int (nI 0), .int sz])) :: ((u1, .inl (eO E, 6, .inr (.inr (.inr (.inr (fun k => some (rr k 0))))))) :: ([])))) (T := (wB E (rr 1) (Bt 1) ++ (wB E (rr 2) (Bt 2) ++ (wB E (rr 3) (Bt 3) ++ (wB E (rr 4) (Bt 4) ++ (wB E (rr 5) (Bt 5))))))) (As := [.ref (b 0)]) (rest := []) (q0 := 0) ⟨hx, hb, hml, hown, hts⟩ hr (cwV 1 hts gX3_mark_X1_copyFrom rfl rfl rfl qvX1_copyFrom ⟨Nat.le_of_ble_eq_true rfl, Nat.le_of_ble_eq_true rfl⟩) hK hP hD hS hA (by simp only [List.cons_append, List.append_assoc, List.nil_append, List.append_nil]) (by simp only [List.cons_append, List.append_assoc, List.nil_append, List.append_nil] <;> rfl) rfl rfl rfl hl.1 rfl (Nat.le_of_ble_eq_true rfl) dX3_mark_10 ⟨Nat.zero_le _, Nat.zero_le _⟩ go
  · clear ejj hjj; subst h
    have hr := kX1_copyFrom l E (rr 1) b (Bt 1) B
    exact gcV_zx (pc := 10) (P := []) (Y := ((u0, .inr (3, [.ref u1, .int (nI 1), .int sz])) :: ((u1, .inl (eO E, 6, .inr (.inr (.inr (.inr (fun k => some (rr k 0))))))) :: (wB E (rr 0) (Bt 0))))) (T := (wB E (rr 2) (Bt 2) ++ (wB E (rr 3) (Bt 3) ++ (wB E (rr 4) (Bt 4) ++ (wB E (rr 5) (Bt 5)))))) (As := [.ref (b 0)]) (rest := []) (q0 := 0) ⟨hx, hb, hml, hown, hts⟩ hr (cwV 1 hts gX3_mark_X1_copyFrom rfl rfl rfl qvX1_copyFrom ⟨Nat.le_of_ble_eq_true rfl, Nat.le_of_ble_eq_true rfl⟩) hK hP hD hS hA (by simp only [List.cons_append, List.append_assoc, List.nil_append, List.append_nil]) (by simp only [List.cons_append, List.append_assoc, List.nil_append, List.append_nil] <;> rfl) rfl rfl rfl hl.1 rfl (Nat.le_of_ble_eq_true rfl) dX3_mark_10 ⟨Nat.zero_le _, Nat.zero_le _⟩ go
  · clear ejj hjj; subst h
    have hr := kX1_copyFrom l E (rr 2) b (Bt 2) B
    exact gcV_zx (pc := 10) (P := []) (Y := ((u0, .inr (3, [.ref u1, .int (nI 2), .int sz])) :: ((u1, .inl (eO E, 6, .inr (.inr (.inr (.inr (fun k => some (rr k 0))))))) :: (wB E (rr 0) (Bt 0) ++ (wB E (rr 1) (Bt 1)))))) (T := (wB E (rr 3) (Bt 3) ++ (wB E (rr 4) (Bt 4) ++ (wB E (rr 5) (Bt 5))))) (As := [.ref (b 0)]) (rest := []) (q0 := 0) ⟨hx, hb, hml, hown, hts⟩ hr (cwV 1 hts gX3_mark_X1_copyFrom rfl rfl rfl qvX1_copyFrom ⟨Nat.le_of_ble_eq_true rfl, Nat.le_of_ble_eq_true rfl⟩) hK hP hD hS hA (by simp only [List.cons_append, List.append_assoc, List.nil_append, List.append_nil]) (by simp only [List.cons_append, List.append_assoc, List.nil_append, List.append_nil] <;> rfl) rfl rfl rfl hl.1 rfl (Nat.le_of_ble_eq_true rfl) dX3_mark_10 ⟨Nat.zero_le _, Nat.zero_le _⟩ go
  · clear ejj hjj; subst h
    have hr := kX1_copyFrom l E (rr 3) b (Bt 3) B
    exact gcV_zx (pc := 10) (P := []) (Y := ((u0, .inr (3, [.ref u1, .int (nI 3), .int sz])) :: ((u1, .inl (eO E, 6, .inr (.inr (.inr (.inr (fun k => some (rr k 0))))))) :: (wB E (rr 0) (Bt 0) ++ (wB E (rr 1) (Bt 1) ++ (wB E (rr 2) (Bt 2))))))) (T := (wB E (rr 4) (Bt 4) ++ (wB E (rr 5) (Bt 5)))) (As := [.ref (b 0)]) (rest := []) (q0 := 0) ⟨hx, hb, hml, hown, hts⟩ hr (cwV 1 hts gX3_mark_X1_copyFrom rfl rfl rfl qvX1_copyFrom ⟨Nat.le_of_ble_eq_true rfl, Nat.le_of_ble_eq_true rfl⟩) hK hP hD hS hA (by simp only [List.cons_append, List.append_assoc, List.nil_append, List.append_nil]) (by simp only [List.cons_append, List.append_assoc, List.nil_append, List.append_nil] <;> rfl) rfl rfl rfl hl.1 rfl (Nat.le_of_ble_eq_true rfl) dX3_mark_10 ⟨Nat.zero_le _, Nat.zero_le _⟩ go
  · clear ejj hjj; subst h
    have hr := kX1_copyFrom l E (rr 4) b (Bt 4) B
    exact gcV_zx (pc := 10) (P := []) (Y := ((u0, .inr (3, [.ref u1, .int (nI 4), .int sz])) :: ((u1, .inl (eO E, 6, .inr (.inr (.inr (.inr (fun k => some (rr k 0))))))) :: (wB E (rr 0) (Bt 0) ++ (wB E (rr 1) (Bt 1) ++ (wB E (rr 2) (Bt 2) ++ (wB E (rr 3) (Bt 3)))))))) (T := (wB E (rr 5) (Bt 5))) (As := [.ref (b 0)]) (rest := []) (q0 := 0) ⟨hx, hb, hml, hown, hts⟩ hr (cwV 1 hts gX3_mark_X1_copyFrom rfl rfl rfl qvX1_copyFrom ⟨Nat.le_of_ble_eq_true rfl, Nat.le_of_ble_eq_true rfl⟩) hK hP hD hS hA (by simp only [List.cons_append, List.append_assoc, List.nil_append, List.append_nil]) (by simp only [List.cons_append, List.append_assoc, List.nil_append, List.append_nil] <;> rfl) rfl rfl rfl hl.1 rfl (Nat.le_of_ble_eq_true rfl) dX3_mark_10 ⟨Nat.zero_le _, Nat.zero_le _⟩ go
  · clear ejj hjj; subst h
    have hr := kX1_copyFrom l E (rr 5) b (Bt 5) B
    exact gcV_zx (pc := 10) (P := []) (Y := ((u0, .inr (3, [.ref u1, .int (nI 5), .int sz])) :: ((u1, .inl (eO E, 6, .inr (.inr (.inr (.inr (fun k => some (rr k 0))))))) :: (wB E (rr 0) (Bt 0) ++ (wB E (rr 1) (Bt 1) ++ (wB E (rr 2) (Bt 2) ++ (wB E (rr 3) (Bt 3) ++ (wB E (rr 4) (Bt 4))))))))) (T := ([])) (As := [.ref (b 0)]) (rest := []) (q0 := 0) ⟨hx, hb, hml, hown, hts⟩ hr (cwV 1 hts gX3_mark_X1_copyFrom rfl rfl rfl qvX1_copyFrom ⟨Nat.le_of_ble_eq_true rfl, Nat.le_of_ble_eq_true rfl⟩) hK hP hD hS hA (by simp only [List.cons_append, List.append_assoc, List.nil_append, List.append_nil]) (by simp only [List.cons_append, List.append_assoc, List.nil_append, List.append_nil] <;> rfl) rfl rfl rfl hl.1 rfl (Nat.le_of_ble_eq_true rfl) dX3_mark_10 ⟨Nat.zero_le _, Nat.zero_le _⟩ go

def fX3_restoreMarked (B : Bat) (j : Nat) (sz : Int32) (Bt : Nat → Bat) : Bat :=
  (fX1_copyFrom B (Bt j))
abbrev rX3_restoreMarked : Room := { frames := 3, cells := 0, slots := 0, locals := 60 }
theorem mm_X3_restoreMarked_1 : Cond.fieldLink RX3 11 "GaugeBounds$States" "ring" "[LGaugeBounds$Battery;" ∈ wsX3_restoreMarked := List.mem_of_getElem? (i := 1) rfl
theorem mm_X3_restoreMarked_2 : Cond.fieldLink RX3 20 "GaugeBounds$States" "marked" "I" ∈ wsX3_restoreMarked := List.mem_of_getElem? (i := 2) rfl
theorem ii_X3_restoreMarked_X3 : ∀ w ∈ wsX30, w ∈ wsX3_restoreMarked := fun _ h => List.mem_cons_of_mem _ (List.mem_append_left _ (List.mem_append_left _ (List.mem_append_left _ (List.mem_append_right _ (h)))))
theorem qvX3_restoreMarked : yX3_restoreMarked.cls = RX3 ∧ yX3_restoreMarked.cls ≠ "java/lang/invoke/MethodHandle" ∧ yX3_restoreMarked.cls ≠ "java/lang/invoke/VarHandle" ∧ (parseMethodDescriptor yX3_restoreMarked.desc).map (fun d => d.parameters.length) = some 1 := by decide +kernel
set_option maxHeartbeats 4000000 in
set_option maxRecDepth 100000 in
theorem kX3_restoreMarked (l : Launch) (E : gEnv) (b : Nat → Nat) (u0 u1 : Nat) (rr : Nat → Nat → Nat) (B : Bat) (j : Nat) (sz : Int32) (Bt : Nat → Bat) (hj : j < 6) : gMv l E yX3_restoreMarked wsX3_restoreMarked rX3_restoreMarked [.ref u0, .ref (b 0)] (wB E b B ++ wSt E u0 u1 j sz rr Bt) (wB E b (fX3_restoreMarked B j sz Bt) ++ wSt E u0 u1 j sz rr Bt) := by
  refine gMv_of (cc := cX3_restoreMarked) (maxL := 2) (ret := none) (by decide) rfl rfl (Nat.le_of_ble_eq_true rfl) ?_
  intro p e s m args below meth c A Q ls hB hQ
  obtain ⟨hx, hb, hml, hown, hts, hK, hP, hD, hA, hS, hl⟩ := hB
  have hown : s.vm.findClass RX3 = some m.cls := hown
  have hP : va_P E.1 vwCl ((wB E b B) ++ ((u0, .inr (3, [.ref u1, .int (nI j), .int sz])) :: ((u1, .inl (eO E, 6, .inr (.inr (.inr (.inr (fun k => some (rr k 0))))))) :: (wRg E rr Bt)))) s.heap := hP
  have hD : va_D A ((wB E b B) ++ ((u0, .inr (3, [.ref u1, .int (nI j), .int sz])) :: ((u1, .inl (eO E, 6, .inr (.inr (.inr (.inr (fun k => some (rr k 0))))))) :: (wRg E rr Bt)))) := hD
  have hl : lv_has ls 2 [(0, .ref u0), (1, .ref (b 0))] := hl
  refine lv_aload_n (pc := 0) hx hb dX3_restoreMarked_0 rfl (lv_at hl 1 rfl) ?_
  refine lv_aload_n (pc := 1) hx hb dX3_restoreMarked_1 rfl (lv_at hl 0 rfl) ?_
  refine g_get (v := .ref u1) (pc := 2) hx hb hts ii_X3_restoreMarked_X3 hown hK.1 hP 6 rfl rfl 0 (by decide) ⟨rfl, rfl, rfl⟩ mm_X3_restoreMarked_1 rfl dX3_restoreMarked_2 ?_
  refine lv_aload_n (pc := 5) hx hb dX3_restoreMarked_5 rfl (lv_at hl 0 rfl) ?_
  refine g_get (v := .int (nI j)) (pc := 6) hx hb hts ii_X3_restoreMarked_X3 hown hK.1 hP 6 rfl rfl 1 (by decide) ⟨rfl, rfl, rfl⟩ mm_X3_restoreMarked_2 rfl dX3_restoreMarked_6 ?_
  refine g_aald (j := j) (v := rr j 0) (pc := 9) hx hb hK.1 hP 7 3 rfl rfl (vp_in_nI hj (by decide)) (nI_clamp (by omega)) rfl dX3_restoreMarked_9 ?_
  obtain ⟨jj, ejj⟩ : ∃ z : Nat, j = z := ⟨_, rfl⟩
  have hjj : jj < 6 := by rw [← ejj]; exact hj
  rw [ejj] at hP hD ⊢
  have go : ∀ (H1 : Heap) (locs1 : List Loc), va_P E.1 vwCl ((wB E b (fX1_copyFrom B (Bt jj))) ++ ((u0, .inr (3, [.ref u1, .int (nI jj), .int sz])) :: ((u1, .inl (eO E, 6, .inr (.inr (.inr (.inr (fun k => some (rr k 0))))))) :: (wRg E rr Bt)))) H1 → va_D A ((wB E b (fX1_copyFrom B (Bt jj))) ++ ((u0, .inr (3, [.ref u1, .int (nI jj), .int sz])) :: ((u1, .inl (eO E, 6, .inr (.inr (.inr (.inr (fun k => some (rr k 0))))))) :: (wRg E rr Bt)))) → va_S A s.heap H1 locs1 → W p l e rX3_restoreMarked s m args below meth c H1 locs1 0 0 Q (F0 m 13 ls []) := by
    intro H locs hP hD hS
    rw [← ejj] at hP hD
    exact hQ _ _ _ _ hP hD hS dX3_restoreMarked_13
  rcases (show jj = 0 ∨ jj = 1 ∨ jj = 2 ∨ jj = 3 ∨ jj = 4 ∨ jj = 5 by omega) with h | h | h | h | h | h
  · clear ejj hjj; subst h
    have hr := kX1_copyFrom l E b (rr 0) B (Bt 0)
    exact gcV_xz (pc := 10) (P := []) (Y := ((u0, .inr (3, [.ref u1, .int (nI 0), .int sz])) :: ((u1, .inl (eO E, 6, .inr (.inr (.inr (.inr (fun k => some (rr k 0))))))) :: ([])))) (T := (wB E (rr 1) (Bt 1) ++ (wB E (rr 2) (Bt 2) ++ (wB E (rr 3) (Bt 3) ++ (wB E (rr 4) (Bt 4) ++ (wB E (rr 5) (Bt 5))))))) (As := [.ref (rr 0 0)]) (rest := []) (q0 := 0) ⟨hx, hb, hml, hown, hts⟩ hr (cwV 1 hts gX3_restoreMarked_X1_copyFrom rfl rfl rfl qvX1_copyFrom ⟨Nat.le_of_ble_eq_true rfl, Nat.le_of_ble_eq_true rfl⟩) hK hP hD hS hA (by simp only [List.cons_append, List.append_assoc, List.nil_append, List.append_nil]) (by simp only [List.cons_append, List.append_assoc, List.nil_append, List.append_nil] <;> rfl) rfl rfl rfl hl.1 rfl (Nat.le_of_ble_eq_true rfl) dX3_restoreMarked_10 ⟨Nat.zero_le _, Nat.zero_le _⟩ go
  · clear ejj hjj; subst h
    have hr := kX1_copyFrom l E b (rr 1) B (Bt 1)
    exact gcV_xz (pc := 10) (P := []) (Y := ((u0, .inr (3, [.ref u1, .int (nI 1), .int sz])) :: ((u1, .inl (eO E, 6, .inr (.inr (.inr (.inr (fun k => some (rr k 0))))))) :: (wB E (rr 0) (Bt 0))))) (T := (wB E (rr 2) (Bt 2) ++ (wB E (rr 3) (Bt 3) ++ (wB E (rr 4) (Bt 4) ++ (wB E (rr 5) (Bt 5)))))) (As := [.ref (rr 1 0)]) (rest := []) (q0 := 0) ⟨hx, hb, hml, hown, hts⟩ hr (cwV 1 hts gX3_restoreMarked_X1_copyFrom rfl rfl rfl qvX1_copyFrom ⟨Nat.le_of_ble_eq_true rfl, Nat.le_of_ble_eq_true rfl⟩) hK hP hD hS hA (by simp only [List.cons_append, List.append_assoc, List.nil_append, List.append_nil]) (by simp only [List.cons_append, List.append_assoc, List.nil_append, List.append_nil] <;> rfl) rfl rfl rfl hl.1 rfl (Nat.le_of_ble_eq_true rfl) dX3_restoreMarked_10 ⟨Nat.zero_le _, Nat.zero_le _⟩ go
  · clear ejj hjj; subst h
    have hr := kX1_copyFrom l E b (rr 2) B (Bt 2)
    exact gcV_xz (pc := 10) (P := []) (Y := ((u0, .inr (3, [.ref u1, .int (nI 2), .int sz])) :: ((u1, .inl (eO E, 6, .inr (.inr (.inr (.inr (fun k => some (rr k 0))))))) :: (wB E (rr 0) (Bt 0) ++ (wB E (rr 1) (Bt 1)))))) (T := (wB E (rr 3) (Bt 3) ++ (wB E (rr 4) (Bt 4) ++ (wB E (rr 5) (Bt 5))))) (As := [.ref (rr 2 0)]) (rest := []) (q0 := 0) ⟨hx, hb, hml, hown, hts⟩ hr (cwV 1 hts gX3_restoreMarked_X1_copyFrom rfl rfl rfl qvX1_copyFrom ⟨Nat.le_of_ble_eq_true rfl, Nat.le_of_ble_eq_true rfl⟩) hK hP hD hS hA (by simp only [List.cons_append, List.append_assoc, List.nil_append, List.append_nil]) (by simp only [List.cons_append, List.append_assoc, List.nil_append, List.append_nil] <;> rfl) rfl rfl rfl hl.1 rfl (Nat.le_of_ble_eq_true rfl) dX3_restoreMarked_10 ⟨Nat.zero_le _, Nat.zero_le _⟩ go
  · clear ejj hjj; subst h
    have hr := kX1_copyFrom l E b (rr 3) B (Bt 3)
    exact gcV_xz (pc := 10) (P := []) (Y := ((u0, .inr (3, [.ref u1, .int (nI 3), .int sz])) :: ((u1, .inl (eO E, 6, .inr (.inr (.inr (.inr (fun k => some (rr k 0))))))) :: (wB E (rr 0) (Bt 0) ++ (wB E (rr 1) (Bt 1) ++ (wB E (rr 2) (Bt 2))))))) (T := (wB E (rr 4) (Bt 4) ++ (wB E (rr 5) (Bt 5)))) (As := [.ref (rr 3 0)]) (rest := []) (q0 := 0) ⟨hx, hb, hml, hown, hts⟩ hr (cwV 1 hts gX3_restoreMarked_X1_copyFrom rfl rfl rfl qvX1_copyFrom ⟨Nat.le_of_ble_eq_true rfl, Nat.le_of_ble_eq_true rfl⟩) hK hP hD hS hA (by simp only [List.cons_append, List.append_assoc, List.nil_append, List.append_nil]) (by simp only [List.cons_append, List.append_assoc, List.nil_append, List.append_nil] <;> rfl) rfl rfl rfl hl.1 rfl (Nat.le_of_ble_eq_true rfl) dX3_restoreMarked_10 ⟨Nat.zero_le _, Nat.zero_le _⟩ go
  · clear ejj hjj; subst h
    have hr := kX1_copyFrom l E b (rr 4) B (Bt 4)
    exact gcV_xz (pc := 10) (P := []) (Y := ((u0, .inr (3, [.ref u1, .int (nI 4), .int sz])) :: ((u1, .inl (eO E, 6, .inr (.inr (.inr (.inr (fun k => some (rr k 0))))))) :: (wB E (rr 0) (Bt 0) ++ (wB E (rr 1) (Bt 1) ++ (wB E (rr 2) (Bt 2) ++ (wB E (rr 3) (Bt 3)))))))) (T := (wB E (rr 5) (Bt 5))) (As := [.ref (rr 4 0)]) (rest := []) (q0 := 0) ⟨hx, hb, hml, hown, hts⟩ hr (cwV 1 hts gX3_restoreMarked_X1_copyFrom rfl rfl rfl qvX1_copyFrom ⟨Nat.le_of_ble_eq_true rfl, Nat.le_of_ble_eq_true rfl⟩) hK hP hD hS hA (by simp only [List.cons_append, List.append_assoc, List.nil_append, List.append_nil]) (by simp only [List.cons_append, List.append_assoc, List.nil_append, List.append_nil] <;> rfl) rfl rfl rfl hl.1 rfl (Nat.le_of_ble_eq_true rfl) dX3_restoreMarked_10 ⟨Nat.zero_le _, Nat.zero_le _⟩ go
  · clear ejj hjj; subst h
    have hr := kX1_copyFrom l E b (rr 5) B (Bt 5)
    exact gcV_xz (pc := 10) (P := []) (Y := ((u0, .inr (3, [.ref u1, .int (nI 5), .int sz])) :: ((u1, .inl (eO E, 6, .inr (.inr (.inr (.inr (fun k => some (rr k 0))))))) :: (wB E (rr 0) (Bt 0) ++ (wB E (rr 1) (Bt 1) ++ (wB E (rr 2) (Bt 2) ++ (wB E (rr 3) (Bt 3) ++ (wB E (rr 4) (Bt 4))))))))) (T := ([])) (As := [.ref (rr 5 0)]) (rest := []) (q0 := 0) ⟨hx, hb, hml, hown, hts⟩ hr (cwV 1 hts gX3_restoreMarked_X1_copyFrom rfl rfl rfl qvX1_copyFrom ⟨Nat.le_of_ble_eq_true rfl, Nat.le_of_ble_eq_true rfl⟩) hK hP hD hS hA (by simp only [List.cons_append, List.append_assoc, List.nil_append, List.append_nil]) (by simp only [List.cons_append, List.append_assoc, List.nil_append, List.append_nil] <;> rfl) rfl rfl rfl hl.1 rfl (Nat.le_of_ble_eq_true rfl) dX3_restoreMarked_10 ⟨Nat.zero_le _, Nat.zero_le _⟩ go

def fX3_takeBack (B : Bat) (j : Nat) (sz : Int32) (Bt : Nat → Bat) : Bat × Nat × Int32 :=
  let x2 : Int32 := sz - 1
  let r3 : Bat := fX3_restoreMarked B ((j + 5) % 6) x2 Bt
  (r3, (j + 5) % 6, x2)
abbrev rX3_takeBack : Room := { frames := 4, cells := 0, slots := 0, locals := 81 }
theorem mm_X3_takeBack_1 : Cond.fieldLink RX3 16 "GaugeBounds$States" "size" "I" ∈ wsX3_takeBack := List.mem_of_getElem? (i := 1) rfl
theorem mm_X3_takeBack_2 : Cond.fieldLink RX3 20 "GaugeBounds$States" "marked" "I" ∈ wsX3_takeBack := List.mem_of_getElem? (i := 2) rfl
theorem ii_X3_takeBack_X3 : ∀ w ∈ wsX30, w ∈ wsX3_takeBack := fun _ h => List.mem_cons_of_mem _ (List.mem_append_left _ (List.mem_append_left _ (List.mem_append_left _ (List.mem_append_right _ (h)))))
theorem qvX3_takeBack : yX3_takeBack.cls = RX3 ∧ yX3_takeBack.cls ≠ "java/lang/invoke/MethodHandle" ∧ yX3_takeBack.cls ≠ "java/lang/invoke/VarHandle" ∧ (parseMethodDescriptor yX3_takeBack.desc).map (fun d => d.parameters.length) = some 1 := by decide +kernel
set_option maxHeartbeats 4000000 in
set_option maxRecDepth 100000 in
theorem kX3_takeBack (l : Launch) (E : gEnv) (b : Nat → Nat) (u0 u1 : Nat) (rr : Nat → Nat → Nat) (B : Bat) (j : Nat) (sz : Int32) (Bt : Nat → Bat) (hj : j < 6) (hz : 0 < sz) : gMv l E yX3_takeBack wsX3_takeBack rX3_takeBack [.ref u0, .ref (b 0)] (wB E b B ++ wSt E u0 u1 j sz rr Bt) (wB E b ((fX3_takeBack B j sz Bt).1) ++ wSt E u0 u1 ((fX3_takeBack B j sz Bt).2.1) ((fX3_takeBack B j sz Bt).2.2) rr Bt) := by
  refine gMv_of (cc := cX3_takeBack) (maxL := 2) (ret := none) (by decide) rfl rfl (Nat.le_of_ble_eq_true rfl) ?_
  intro p e s m args below meth c A Q ls hB hQ
  obtain ⟨hx, hb, hml, hown, hts, hK, hP, hD, hA, hS, hl⟩ := hB
  have hown : s.vm.findClass RX3 = some m.cls := hown
  have hP : va_P E.1 vwCl ((wB E b B) ++ ((u0, .inr (3, [.ref u1, .int (nI j), .int sz])) :: ((u1, .inl (eO E, 6, .inr (.inr (.inr (.inr (fun k => some (rr k 0))))))) :: (wRg E rr Bt)))) s.heap := hP
  have hD : va_D A ((wB E b B) ++ ((u0, .inr (3, [.ref u1, .int (nI j), .int sz])) :: ((u1, .inl (eO E, 6, .inr (.inr (.inr (.inr (fun k => some (rr k 0))))))) :: (wRg E rr Bt)))) := hD
  have hl : lv_has ls 2 [(0, .ref u0), (1, .ref (b 0))] := hl
  refine lv_aload_n (pc := 0) hx hb dX3_takeBack_0 rfl (lv_at hl 0 rfl) ?_
  refine g_get (v := .int sz) (pc := 1) hx hb hts ii_X3_takeBack_X3 hown hK.1 hP 6 rfl rfl 2 (by decide) ⟨rfl, rfl, rfl⟩ mm_X3_takeBack_1 rfl dX3_takeBack_1 ?_
  refine lv_if_le (tgt := 38) (pc := 4) hx hb dX3_takeBack_4 (by decide) (fun c_1 => ?_) (fun c_1 => ?_)
  · exact absurd c_1 (fun z => absurd hz (by rw [Int32.lt_iff_toInt_lt]; rw [Int32.le_iff_toInt_le] at z; omega))
  refine lv_aload_n (pc := 7) hx hb dX3_takeBack_7 rfl (lv_at hl 0 rfl) ?_
  refine lv_aload_n (pc := 8) hx hb dX3_takeBack_8 rfl (lv_at hl 0 rfl) ?_
  refine g_get (v := .int (nI j)) (pc := 9) hx hb hts ii_X3_takeBack_X3 hown hK.1 hP 6 rfl rfl 1 (by decide) ⟨rfl, rfl, rfl⟩ mm_X3_takeBack_2 rfl dX3_takeBack_9 ?_
  refine lv_bipush (v := 6) (pc := 12) hx hb dX3_takeBack_12 rfl ?_
  refine lv_iadd (pc := 14) hx hb dX3_takeBack_14 ?_
  refine lv_iconst (v := 1) (pc := 15) hx hb dX3_takeBack_15 rfl ?_
  refine lv_isub (pc := 16) hx hb dX3_takeBack_16 ?_
  refine lv_bipush (v := 6) (pc := 17) hx hb dX3_takeBack_17 rfl ?_
  refine lv_irem (pc := 19) hx hb dX3_takeBack_19 (by decide) ?_
  rw [km_5 hj]
  refine g_put (w1 := ((wB E b B) ++ ((u0, .inr (3, [.ref u1, .int (nI ((j + 5) % 6)), .int sz])) :: ((u1, .inl (eO E, 6, .inr (.inr (.inr (.inr (fun k => some (rr k 0))))))) :: (wRg E rr Bt))))) (pc := 20) hx hb hts ii_X3_takeBack_X3 tyX3 tyX3_ok nmX3 hown hK.1 hP hD hS 6 rfl rfl 1 (by decide) ⟨rfl, rfl, rfl⟩ mm_X3_takeBack_2 rfl rfl rfl rfl (Nat.le_of_ble_eq_true rfl) rfl dX3_takeBack_20 (fun H locs hP hD hS => ?_)
  refine lv_aload_n (pc := 23) hx hb dX3_takeBack_23 rfl (lv_at hl 0 rfl) ?_
  refine lv_dup (pc := 24) hx hb dX3_takeBack_24 rfl ?_
  refine g_get (v := .int sz) (pc := 25) hx hb hts ii_X3_takeBack_X3 hown hK.1 hP 6 rfl rfl 2 (by decide) ⟨rfl, rfl, rfl⟩ mm_X3_takeBack_1 rfl dX3_takeBack_25 ?_
  refine lv_iconst (v := 1) (pc := 28) hx hb dX3_takeBack_28 rfl ?_
  refine lv_isub (pc := 29) hx hb dX3_takeBack_29 ?_
  refine g_topi (fun x2 ex2 => ?_)
  refine g_put (w1 := ((wB E b B) ++ ((u0, .inr (3, [.ref u1, .int (nI ((j + 5) % 6)), .int x2])) :: ((u1, .inl (eO E, 6, .inr (.inr (.inr (.inr (fun k => some (rr k 0))))))) :: (wRg E rr Bt))))) (pc := 30) hx hb hts ii_X3_takeBack_X3 tyX3 tyX3_ok nmX3 hown hK.1 hP hD hS 6 rfl rfl 2 (by decide) ⟨rfl, rfl, rfl⟩ mm_X3_takeBack_1 rfl rfl rfl rfl (Nat.le_of_ble_eq_true rfl) rfl dX3_takeBack_30 (fun H locs hP hD hS => ?_)
  refine lv_aload_n (pc := 33) hx hb dX3_takeBack_33 rfl (lv_at hl 0 rfl) ?_
  refine lv_aload_n (pc := 34) hx hb dX3_takeBack_34 rfl (lv_at hl 1 rfl) ?_
  obtain ⟨r3, er3⟩ : ∃ z : Bat, fX3_restoreMarked B ((j + 5) % 6) x2 Bt = z := ⟨_, rfl⟩
  have hr3 := kX3_restoreMarked l E b u0 u1 rr B ((j + 5) % 6) x2 Bt (Nat.mod_lt _ (by decide))
  rw [er3] at hr3
  refine gcVv0 (pc := 35) (w1 := ((wB E b r3) ++ ((u0, .inr (3, [.ref u1, .int (nI ((j + 5) % 6)), .int x2])) :: ((u1, .inl (eO E, 6, .inr (.inr (.inr (.inr (fun k => some (rr k 0))))))) :: (wRg E rr Bt))))) (As := [.ref (b 0)]) (rest := []) (q0 := 6) ⟨hx, hb, hml, hown, hts⟩ hr3 (cwV 1 hts gX3_takeBack_X3_restoreMarked rfl rfl rfl qvX3_restoreMarked ⟨Nat.le_of_ble_eq_true rfl, Nat.le_of_ble_eq_true rfl⟩) hK hP hD hS hA rfl rfl rfl rfl rfl hl.1 rfl (Nat.le_of_ble_eq_true rfl) dX3_takeBack_35 ⟨Nat.zero_le _, Nat.zero_le _⟩ (fun H locs hP hD hS => ?_)
  subst er3
  subst ex2
  exact hQ _ _ _ _ hP hD hS dX3_takeBack_38
