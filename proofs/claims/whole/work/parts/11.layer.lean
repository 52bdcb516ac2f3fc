/-! THE LAYER: contracts of methods that make nothing, over a world of cells; calls by chunks of the world; compares of longs -/
abbrev gEnv : Type := va_G × ClassId × ClassId × ClassId × ClassId
abbrev eI (E : gEnv) : ClassId := E.2.1
abbrev eJ (E : gEnv) : ClassId := E.2.2.1
abbrev eB (E : gEnv) : ClassId := E.2.2.2.1
abbrev eO (E : gEnv) : ClassId := E.2.2.2.2
abbrev gTy (E : gEnv) : List (ClassId × FieldType) := [(eI E, .int), (eJ E, .long), (eB E, .byte), (eO E, .object RX1)]
def gNL (U : State) : Prop := va_Nw (.methodLinkNest RX0 31 yX5_within RX5) U ∧ va_Nw (.methodLinkNest RX1 81 yX5_within RX5) U ∧ va_Nw (.methodLinkNest RX2 21 yX5_within RX5) U ∧ va_Nw (.methodLinkNest RX4 29 yX5_within RX5) U
theorem gNL_warm {s U : State} (hW : s.WarmedH U.vm) (h : gNL s) : gNL U := ⟨va_Nw.warmM hW h.1, va_Nw.warmM hW h.2.1, va_Nw.warmM hW h.2.2.1, va_Nw.warmM hW h.2.2.2⟩
theorem gNL_calling {U : State} {g : JFrame} {mk : MethodId} {a : Array Value} (h : gNL U) : gNL (U.calling g mk a) := ⟨va_Nw.same rfl rfl h.1, va_Nw.same rfl rfl h.2.1, va_Nw.same rfl rfl h.2.2.1, va_Nw.same rfl rfl h.2.2.2⟩
def gKn (E : gEnv) (U : State) : Prop := va_K E.1 vwCl (gTy E) U ∧ gNL U
theorem gKn_warm {E : gEnv} {s U : State} (hW : s.WarmedH U.vm) (h : gKn E s) : gKn E U := ⟨va_K.moved hW.alike h.1, gNL_warm hW h.2⟩
theorem gKn_calling {E : gEnv} {U : State} {g : JFrame} {mk : MethodId} {a : Array Value} (h : gKn E U) : gKn E (U.calling g mk a) := ⟨va_K.moved (u := U) (U := U.calling g mk a) (Vm.Alike.refl U.vm) h.1, gNL_calling h.2⟩
def gPre (E : gEnv) (w : va_W) (sz : Nat) (U : State) : Prop := U.heap.size = sz ∧ va_P E.1 vwCl w U.heap ∧ gKn E U ∧ va_D (fun _ => True) w
def gPost (E : gEnv) (w : va_W) (A : Nat → Prop) (t : State) : Prop := va_P E.1 vwCl w t.heap ∧ va_D A w
theorem gPre_blind {E : gEnv} {w : va_W} {sz : Nat} {av : List Value} : FrameBlind (va_Pc av (gPre E w sz)) := by
  intro a U g mk q
  obtain ⟨q0, q1, qP, qK, qD⟩ := q
  exact ⟨q0, q1, qP, gKn_calling qK, qD⟩
/-- a method that answers f and leaves the world w' -/
def gMi (l : Launch) (E : gEnv) (y : MethodName) (ws : List Cond) (rm : Room) (av : List Value) (w : va_W) (f : Int32) (w' : va_W) : Prop := ∀ sz : Nat, Met l y ws rm (va_Pc av (gPre E w sz)) (va_Qi (fun r (_ : Unit) => r = f) (fun _ t => gPost E w' (va_A w sz) t) (va_A w sz)) 0 0 (va_A w sz)
def gMl (l : Launch) (E : gEnv) (y : MethodName) (ws : List Cond) (rm : Room) (av : List Value) (w : va_W) (f : Int64) (w' : va_W) : Prop := ∀ sz : Nat, Met l y ws rm (va_Pc av (gPre E w sz)) (va_Ql (fun r (_ : Unit) => r = f) (fun _ t => gPost E w' (va_A w sz) t) (va_A w sz)) 0 0 (va_A w sz)
def gMv (l : Launch) (E : gEnv) (y : MethodName) (ws : List Cond) (rm : Room) (av : List Value) (w : va_W) (w' : va_W) : Prop := ∀ sz : Nat, Met l y ws rm (va_Pc av (gPre E w sz)) (va_Qv (fun (_ : Unit) => True) (fun _ t => gPost E w' (va_A w sz) t) (va_A w sz)) 0 0 (va_A w sz)
/-- how a walk may end -/
abbrev gRi (p : Program) (l : Launch) (e : Env) (R : Room) (s : State) (m : MethodId) (args : Array Value) (below : List Frame) (meth : Method) (c : Code) (A : Nat → Prop) (Q : State → Prop) (E : gEnv) (cc : ByteArray) (f : Int32) (w' : va_W) : Prop :=
  ∀ (H : Heap) (locs : List Loc) (v : Int32) (pc : Nat) (ls : Array Slot), v = f → va_P E.1 vwCl w' H → va_D A w' → va_S A s.heap H locs → decode cc pc = .ok (.ireturn, 1) → W p l e R s m args below meth c H locs 0 0 Q (F0 m pc ls [.int v])
abbrev gRl (p : Program) (l : Launch) (e : Env) (R : Room) (s : State) (m : MethodId) (args : Array Value) (below : List Frame) (meth : Method) (c : Code) (A : Nat → Prop) (Q : State → Prop) (E : gEnv) (cc : ByteArray) (f : Int64) (w' : va_W) : Prop :=
  ∀ (H : Heap) (locs : List Loc) (v : Int64) (pc : Nat) (ls : Array Slot), v = f → va_P E.1 vwCl w' H → va_D A w' → va_S A s.heap H locs → decode cc pc = .ok (.lreturn, 1) → W p l e R s m args below meth c H locs 0 0 Q (F0 m pc ls [.long v])
abbrev gRv (p : Program) (l : Launch) (e : Env) (R : Room) (s : State) (m : MethodId) (args : Array Value) (below : List Frame) (meth : Method) (c : Code) (A : Nat → Prop) (Q : State → Prop) (E : gEnv) (cc : ByteArray) (w' : va_W) : Prop :=
  ∀ (H : Heap) (locs : List Loc) (pc : Nat) (ls : Array Slot), va_P E.1 vwCl w' H → va_D A w' → va_S A s.heap H locs → decode cc pc = .ok (.return_, 1) → W p l e R s m args below meth c H locs 0 0 Q (F0 m pc ls [])
/-- what a walk begins with -/
abbrev gB0 (l : Launch) (E : gEnv) (y : MethodName) (ws : List Cond) (cc : ByteArray) (maxL : Nat) (av : List Value) (w : va_W) (p : Program) (s : State) (m : MethodId) (args : Array Value) (c : Code) (A : Nat → Prop) (ls : Array Slot) : Prop :=
  p.tables.exec = Jvm.exec ∧ c.code = cc ∧ c.maxLocals = maxL ∧ s.vm.findClass y.cls = some m.cls ∧ (∀ w ∈ ws, w.before args s = true) ∧ gKn E s ∧ va_P E.1 vwCl w s.heap ∧ va_D A w ∧ (∀ q, s.heap.size ≤ q → A q) ∧ va_S A s.heap s.heap [] ∧ lv_has ls maxL (lv_args 0 av)
section OF
variable {l : Launch} {E : gEnv} {y : MethodName} {ws ws' : List Cond} {rm : Room} {av : List Value} {w w' : va_W} {cc : ByteArray} {maxL : Nat} {ret : Option FieldType}
theorem gMi_of {f : Int32} (hy : plainName y.cls = true) (hw : ws = Cond.code y cc maxL ret :: ws') (hret : ret = some .int) (hlen : (lg_sl av).length ≤ maxL)
    (body : ∀ (p : Program) (e : Env) (s : State) (m : MethodId) (args : Array Value) (below : List Frame) (meth : Method) (c : Code) (A : Nat → Prop) (Q : State → Prop) (ls : Array Slot), gB0 l E y ws cc maxL av w p s m args c A ls → gRi p l e rm s m args below meth c A Q E cc f w' → W p l e rm s m args below meth c s.heap [] 0 0 Q (F0 m 0 ls [])) : gMi l E y ws rm av w f w' := by
  intro sz
  refine Met.ofW (cc := cc) (maxL := maxL) (ret := ret) hy hw ?_
  intro p e s m args below meth c s₁ B hml hv
  obtain ⟨rfl, hsz, hP, hK, hD0⟩ := hv
  have hr := B.returns
  have hts := atoms_spec (ws := ws) B.pre
  have hown : s.vm.findClass y.cls = some m.cls := findClass_of_methodNamed B.named
  subst hsz
  have hD := hD0.self (sz := s.heap.size)
  have hl := lv_entry av (n := maxL) hlen
  rw [lg_entry_eq]
  generalize (lg_sl av ++ List.replicate (maxL - (lg_sl av).length) Slot.unset).toArray = ls at hl ⊢
  exact body p e s m _ below meth c _ _ ls ⟨B.exec, B.bytes, hml, hown, hts, hK, hP, hD, fun q h => Or.inr h, va_S.rf, hl⟩ (fun H locs v pc ls hv hP hD hS hd => W.iret (v := v) B.exec B.bytes (hr.trans hret) (fun t ht hW => ⟨⟨v, (), rfl, hv, by rw [ht]; exact hP, hD⟩, hS.F ht⟩) hS.2.2 hd B.notSynchronized)
theorem gMz_of {f : Int32} (hy : plainName y.cls = true) (hw : ws = Cond.code y cc maxL ret :: ws') (hret : ret = some .boolean) (hlen : (lg_sl av).length ≤ maxL) (hn : narrow .boolean (.int f) = .int f)
    (body : ∀ (p : Program) (e : Env) (s : State) (m : MethodId) (args : Array Value) (below : List Frame) (meth : Method) (c : Code) (A : Nat → Prop) (Q : State → Prop) (ls : Array Slot), gB0 l E y ws cc maxL av w p s m args c A ls → gRi p l e rm s m args below meth c A Q E cc f w' → W p l e rm s m args below meth c s.heap [] 0 0 Q (F0 m 0 ls [])) : gMi l E y ws rm av w f w' := by
  intro sz
  refine Met.ofW (cc := cc) (maxL := maxL) (ret := ret) hy hw ?_
  intro p e s m args below meth c s₁ B hml hv
  obtain ⟨rfl, hsz, hP, hK, hD0⟩ := hv
  have hr := B.returns
  have hts := atoms_spec (ws := ws) B.pre
  have hown : s.vm.findClass y.cls = some m.cls := findClass_of_methodNamed B.named
  subst hsz
  have hD := hD0.self (sz := s.heap.size)
  have hl := lv_entry av (n := maxL) hlen
  rw [lg_entry_eq]
  generalize (lg_sl av ++ List.replicate (maxL - (lg_sl av).length) Slot.unset).toArray = ls at hl ⊢
  exact body p e s m _ below meth c _ _ ls ⟨B.exec, B.bytes, hml, hown, hts, hK, hP, hD, fun q h => Or.inr h, va_S.rf, hl⟩ (fun H locs v pc ls hv hP hD hS hd => W.zret (v := v) B.exec B.bytes (hr.trans hret) (by rw [hv]; exact hn) (fun t ht hW => ⟨⟨v, (), rfl, hv, by rw [ht]; exact hP, hD⟩, hS.F ht⟩) hS.2.2 hd B.notSynchronized)
theorem gMl_of {f : Int64} (hy : plainName y.cls = true) (hw : ws = Cond.code y cc maxL ret :: ws') (hret : ret = some .long) (hlen : (lg_sl av).length ≤ maxL)
    (body : ∀ (p : Program) (e : Env) (s : State) (m : MethodId) (args : Array Value) (below : List Frame) (meth : Method) (c : Code) (A : Nat → Prop) (Q : State → Prop) (ls : Array Slot), gB0 l E y ws cc maxL av w p s m args c A ls → gRl p l e rm s m args below meth c A Q E cc f w' → W p l e rm s m args below meth c s.heap [] 0 0 Q (F0 m 0 ls [])) : gMl l E y ws rm av w f w' := by
  intro sz
  refine Met.ofW (cc := cc) (maxL := maxL) (ret := ret) hy hw ?_
  intro p e s m args below meth c s₁ B hml hv
  obtain ⟨rfl, hsz, hP, hK, hD0⟩ := hv
  have hr := B.returns
  have hts := atoms_spec (ws := ws) B.pre
  have hown : s.vm.findClass y.cls = some m.cls := findClass_of_methodNamed B.named
  subst hsz
  have hD := hD0.self (sz := s.heap.size)
  have hl := lv_entry av (n := maxL) hlen
  rw [lg_entry_eq]
  generalize (lg_sl av ++ List.replicate (maxL - (lg_sl av).length) Slot.unset).toArray = ls at hl ⊢
  exact body p e s m _ below meth c _ _ ls ⟨B.exec, B.bytes, hml, hown, hts, hK, hP, hD, fun q h => Or.inr h, va_S.rf, hl⟩ (fun H locs v pc ls hv hP hD hS hd => W.lret (v := v) B.exec B.bytes (hr.trans hret) (fun t ht hW => ⟨⟨v, (), rfl, hv, by rw [ht]; exact hP, hD⟩, hS.F ht⟩) hS.2.2 hd B.notSynchronized)
theorem gMv_of (hy : plainName y.cls = true) (hw : ws = Cond.code y cc maxL ret :: ws') (hret : ret = none) (hlen : (lg_sl av).length ≤ maxL)
    (body : ∀ (p : Program) (e : Env) (s : State) (m : MethodId) (args : Array Value) (below : List Frame) (meth : Method) (c : Code) (A : Nat → Prop) (Q : State → Prop) (ls : Array Slot), gB0 l E y ws cc maxL av w p s m args c A ls → gRv p l e rm s m args below meth c A Q E cc w' → W p l e rm s m args below meth c s.heap [] 0 0 Q (F0 m 0 ls [])) : gMv l E y ws rm av w w' := by
  intro sz
  refine Met.ofW (cc := cc) (maxL := maxL) (ret := ret) hy hw ?_
  intro p e s m args below meth c s₁ B hml hv
  obtain ⟨rfl, hsz, hP, hK, hD0⟩ := hv
  have hr := B.returns
  have hts := atoms_spec (ws := ws) B.pre
  have hown : s.vm.findClass y.cls = some m.cls := findClass_of_methodNamed B.named
  subst hsz
  have hD := hD0.self (sz := s.heap.size)
  have hl := lv_entry av (n := maxL) hlen
  rw [lg_entry_eq]
  generalize (lg_sl av ++ List.replicate (maxL - (lg_sl av).length) Slot.unset).toArray = ls at hl ⊢
  exact body p e s m _ below meth c _ _ ls ⟨B.exec, B.bytes, hml, hown, hts, hK, hP, hD, fun q h => Or.inr h, va_S.rf, hl⟩ (fun H locs pc ls hP hD hS hd => W.vret B.exec B.bytes (hr.trans hret) (fun t ht hW => ⟨⟨(), rfl, trivial, by rw [ht]; exact hP, hD⟩, hS.F ht⟩) hS.2.2 hd B.notSynchronized)
end OF
theorem gP_l {D : va_G} {cl : List vw_C} {a b : va_W} {H : Heap} (h : va_P D cl (a ++ b) H) : va_P D cl a H := fun k q hk => h k q (by rw [List.getElem?_append_left (List.getElem?_eq_some_iff.mp hk).1]; exact hk)
theorem gP_r {D : va_G} {cl : List vw_C} {a b : va_W} {H : Heap} (h : va_P D cl (a ++ b) H) : va_P D cl b H := fun k q hk => h (a.length + k) q (by rw [List.getElem?_append_right (Nat.le_add_right _ _), Nat.add_sub_cancel_left]; exact hk)
theorem gD_l {A : Nat → Prop} {a b : va_W} (h : va_D A (a ++ b)) : va_D A a := by
  have e : ∀ (k : Nat) (q : Nat × va_E), a[k]? = some q → (a ++ b)[k]? = some q := fun k q hk => by rw [List.getElem?_append_left (List.getElem?_eq_some_iff.mp hk).1]; exact hk
  exact ⟨fun i j p q hi hj => h.1 i j p q (e i p hi) (e j q hj), fun k q hk => h.2 k q (e k q hk)⟩
theorem gD_r {A : Nat → Prop} {a b : va_W} (h : va_D A (a ++ b)) : va_D A b := by
  have e : ∀ (k : Nat) (q : Nat × va_E), b[k]? = some q → (a ++ b)[a.length + k]? = some q := fun k q hk => by rw [List.getElem?_append_right (Nat.le_add_right _ _), Nat.add_sub_cancel_left]; exact hk
  exact ⟨fun i j p q hi hj hpq => by have := h.1 _ _ p q (e i p hi) (e j q hj) hpq; omega, fun k q hk => h.2 _ q (e k q hk)⟩
theorem gD_x {A : Nat → Prop} {a b : va_W} (h : va_D A (a ++ b)) {x y : Nat × va_E} (hx : x ∈ a) (hy : y ∈ b) : x.1 ≠ y.1 := by
  obtain ⟨i, hi⟩ := List.getElem?_of_mem hx
  obtain ⟨j, hj⟩ := List.getElem?_of_mem hy
  have hl := (List.getElem?_eq_some_iff.mp hi).1
  intro e
  have := h.1 i (a.length + j) x y (by rw [List.getElem?_append_left hl]; exact hi) (by rw [List.getElem?_append_right (Nat.le_add_right _ _), Nat.add_sub_cancel_left]; exact hj) e
  omega
theorem g_free {A : Nat → Prop} {pre wc post : va_W} {H0 H : Heap} {locs : List Loc} (hD : va_D A (pre ++ (wc ++ post))) (hS : va_S A H0 H locs) (hA : ∀ q, H0.size ≤ q → A q) : ∀ q, va_A wc H.size q → A q := by
  rintro q (⟨k, e, h⟩ | h)
  · exact (gD_l (gD_r hD)).2 k (q, e) h
  · exact hA q (Nat.le_trans hS.1 h)
/-- the frame rule: a chunk of the world is another, the rest stays -/
theorem g_join {D : va_G} {cl : List vw_C} {A : Nat → Prop} {pre wc post wc' : va_W} {H H1 : Heap} (hP : va_P D cl (pre ++ (wc ++ post)) H) (hD : va_D A (pre ++ (wc ++ post))) (hk : ∀ q : Nat, q < H.size → ¬ va_A wc H.size q → H1[q]? = H[q]?) (hF : ∀ q, va_A wc H.size q → A q) (hP1 : va_P D cl wc' H1) (hD1 : va_D (va_A wc H.size) wc') : va_P D cl (pre ++ (wc' ++ post)) H1 ∧ va_D A (pre ++ (wc' ++ post)) := by
  have hPp := gP_l hP
  have hPo := gP_r (gP_r hP)
  have hDr := gD_r hD
  have out1 : ∀ (k : Nat) (q : Nat × va_E), pre[k]? = some q → q.1 < H.size ∧ ¬ va_A wc H.size q.1 := by
    intro k q hk
    refine ⟨(hPp k q hk).lt, ?_⟩
    rintro (⟨j, e, hj⟩ | h)
    · exact gD_x hD (List.mem_of_getElem? hk) (List.mem_append_left _ (List.mem_of_getElem? hj)) rfl
    · exact absurd (hPp k q hk).lt (Nat.not_lt.mpr h)
  have out2 : ∀ (k : Nat) (q : Nat × va_E), post[k]? = some q → q.1 < H.size ∧ ¬ va_A wc H.size q.1 := by
    intro k q hk
    refine ⟨(hPo k q hk).lt, ?_⟩
    rintro (⟨j, e, hj⟩ | h)
    · exact gD_x hDr (List.mem_of_getElem? hj) (List.mem_of_getElem? hk) rfl
    · exact absurd (hPo k q hk).lt (Nat.not_lt.mpr h)
  refine ⟨va_P.app (va_P.kept hPp (fun k q h => hk _ (out1 k q h).1 (out1 k q h).2)) (va_P.app hP1 (va_P.kept hPo (fun k q h => hk _ (out2 k q h).1 (out2 k q h).2))), ?_⟩
  refine va_D.app (gD_l hD) (va_D.app (hD1.weaken (fun _ q _ h => hF q.1 h)) (gD_r hDr) (fun i j x y hx hy e => ?_)) (fun i j x y hx hy e => ?_)
  · have h1 := hD1.2 i x hx
    rw [e] at h1
    exact (out2 j y hy).2 h1
  · rcases List.mem_append.mp (List.mem_of_getElem? hy) with h | h
    · obtain ⟨k, hk⟩ := List.getElem?_of_mem h
      have h1 := hD1.2 k y hk
      rw [← e] at h1
      exact (out1 i x hx).2 h1
    · exact gD_x hD (List.mem_of_getElem? hx) (List.mem_append_right _ h) e
theorem g_preV {s : State} {H : Heap} {E : gEnv} {A : Nat → Prop} {wc : va_W} {b q0 ci : Nat} {fs As : List Value} {C : String} {T : u_T} {N : Nat} (hK : gKn E s) (hP : va_P E.1 vwCl wc H) (hD : va_D A wc) (hq : wc[q0]? = some (b, .inr (ci, fs))) (hc : vwCl[ci]? = some (C, T, N)) : PreV s H C b (va_Pc (.ref b :: As) (gPre E wc H.size)) As :=
  ⟨gPre_blind, va_recv hK.1 hP hc hq, fun U hU hW => ⟨rfl, by rw [hU], by rw [hU]; exact hP, gKn_warm hW hK, hD.weaken (fun _ _ _ _ => trivial)⟩⟩
theorem g_preS {s : State} {H : Heap} {E : gEnv} {A : Nat → Prop} {wc : va_W} {As : List Value} (hK : gKn E s) (hP : va_P E.1 vwCl wc H) (hD : va_D A wc) : PreS s H (va_Pc As (gPre E wc H.size)) As :=
  ⟨gPre_blind, fun U hU hW => ⟨rfl, by rw [hU], by rw [hU]; exact hP, gKn_warm hW hK, hD.weaken (fun _ _ _ _ => trivial)⟩⟩
theorem gP_nil {D : va_G} {cl : List vw_C} {H : Heap} : va_P D cl [] H := fun k q h => by simp at h
theorem gD_nil {A : Nat → Prop} : va_D A [] := ⟨fun i j p q h => by simp at h, fun k q h => by simp at h⟩
section CALLS
variable {p : Program} {l : Launch} {e : Env} {R : Room} {s : State} {m : MethodId} {args : Array Value} {below : List Frame} {meth : Method} {c : Code} {H : Heap} {locs : List Loc} {cells slots : Nat} {Q : State → Prop}
variable {E : gEnv} {A : Nat → Prop} {cc bytes : ByteArray} {nL maxL index n pc : Nat} {Ts ws2 : List Cond} {rm2 : Room} {own C host : String} {y : MethodName} {ret : Option FieldType} {b : Nat} {As rest st : List Value} {ls : Array Slot} {w wc wc' w1 pre post : va_W} {fs : List Value} {T : u_T} {N q0 ci : Nat}
theorem gcVi {f : Int32} (S : CallFix p m c cc nL s args Ts own) (hM : gMi l E y ws2 rm2 (.ref b :: As) wc f wc') (cw : CallW R s args own C index y bytes maxL ret ws2 rm2 0 0 n) (hK : gKn E s) (hP : va_P E.1 vwCl w H) (hD : va_D A w) (hS : va_S A s.heap H locs) (hA : ∀ q, s.heap.size ≤ q → A q) (hw : w = pre ++ (wc ++ post)) (hw1 : pre ++ (wc' ++ post) = w1) (hq : wc[q0]? = some (b, .inr (ci, fs))) (hc : vwCl[ci]? = some (C, T, N)) (hn : As.length = n) (hsz : ls.size = nL) (hst : st = As.reverse ++ .ref b :: rest) (hrm : (rest.map fun v => v.category).sum ≤ 8) (hdg : decode cc pc = .ok (.invokevirtual index, 3)) (hf : cells ≤ R.cells ∧ slots ≤ R.slots)
    (kk : ∀ (H1 : Heap) (locs1 : List Loc), va_P E.1 vwCl w1 H1 → va_D A w1 → va_S A s.heap H1 locs1 → W p l e R s m args below meth c H1 locs1 cells slots Q (F0 m (pc + 3) ls (.int f :: rest))) : W p l e R s m args below meth c H locs cells slots Q (F0 m pc ls st) := by
  subst hw; subst hw1
  have hPc := gP_l (gP_r hP)
  have hDc := gD_l (gD_r hD)
  have hFc := g_free hD hS hA
  refine va_calli (va_runV (As := As) (rest := rest) S (hM H.size) cw (g_preV hK hPc hDc hq hc) rfl hn hsz hst (lv_room hrm) hdg hf) hS (fun q _ h => hFc q h) hFc (fun r u t H1 locs1 ht hvm hw hB hz1 hk1 hS1 => ?_)
  obtain ⟨hP1, hD1⟩ := hB
  rw [ht] at hP1
  obtain ⟨h1, h2⟩ := g_join hP hD hk1 hFc hP1 hD1
  subst hw
  exact kk H1 locs1 h1 h2 hS1
theorem gcVl {f : Int64} (S : CallFix p m c cc nL s args Ts own) (hM : gMl l E y ws2 rm2 (.ref b :: As) wc f wc') (cw : CallW R s args own C index y bytes maxL ret ws2 rm2 0 0 n) (hK : gKn E s) (hP : va_P E.1 vwCl w H) (hD : va_D A w) (hS : va_S A s.heap H locs) (hA : ∀ q, s.heap.size ≤ q → A q) (hw : w = pre ++ (wc ++ post)) (hw1 : pre ++ (wc' ++ post) = w1) (hq : wc[q0]? = some (b, .inr (ci, fs))) (hc : vwCl[ci]? = some (C, T, N)) (hn : As.length = n) (hsz : ls.size = nL) (hst : st = As.reverse ++ .ref b :: rest) (hrm : (rest.map fun v => v.category).sum ≤ 8) (hdg : decode cc pc = .ok (.invokevirtual index, 3)) (hf : cells ≤ R.cells ∧ slots ≤ R.slots)
    (kk : ∀ (H1 : Heap) (locs1 : List Loc), va_P E.1 vwCl w1 H1 → va_D A w1 → va_S A s.heap H1 locs1 → W p l e R s m args below meth c H1 locs1 cells slots Q (F0 m (pc + 3) ls (.long f :: rest))) : W p l e R s m args below meth c H locs cells slots Q (F0 m pc ls st) := by
  subst hw; subst hw1
  have hPc := gP_l (gP_r hP)
  have hDc := gD_l (gD_r hD)
  have hFc := g_free hD hS hA
  refine va_calll (va_runV (As := As) (rest := rest) S (hM H.size) cw (g_preV hK hPc hDc hq hc) rfl hn hsz hst (lv_room hrm) hdg hf) hS (fun q _ h => hFc q h) hFc (fun r u t H1 locs1 ht hvm hw hB hz1 hk1 hS1 => ?_)
  obtain ⟨hP1, hD1⟩ := hB
  rw [ht] at hP1
  obtain ⟨h1, h2⟩ := g_join hP hD hk1 hFc hP1 hD1
  subst hw
  exact kk H1 locs1 h1 h2 hS1
theorem gcVv (S : CallFix p m c cc nL s args Ts own) (hM : gMv l E y ws2 rm2 (.ref b :: As) wc wc') (cw : CallW R s args own C index y bytes maxL ret ws2 rm2 0 0 n) (hK : gKn E s) (hP : va_P E.1 vwCl w H) (hD : va_D A w) (hS : va_S A s.heap H locs) (hA : ∀ q, s.heap.size ≤ q → A q) (hw : w = pre ++ (wc ++ post)) (hw1 : pre ++ (wc' ++ post) = w1) (hq : wc[q0]? = some (b, .inr (ci, fs))) (hc : vwCl[ci]? = some (C, T, N)) (hn : As.length = n) (hsz : ls.size = nL) (hst : st = As.reverse ++ .ref b :: rest) (hrm : (rest.map fun v => v.category).sum ≤ 8) (hdg : decode cc pc = .ok (.invokevirtual index, 3)) (hf : cells ≤ R.cells ∧ slots ≤ R.slots)
    (kk : ∀ (H1 : Heap) (locs1 : List Loc), va_P E.1 vwCl w1 H1 → va_D A w1 → va_S A s.heap H1 locs1 → W p l e R s m args below meth c H1 locs1 cells slots Q (F0 m (pc + 3) ls rest)) : W p l e R s m args below meth c H locs cells slots Q (F0 m pc ls st) := by
  subst hw; subst hw1
  have hPc := gP_l (gP_r hP)
  have hDc := gD_l (gD_r hD)
  have hFc := g_free hD hS hA
  refine va_callv (va_runV (As := As) (rest := rest) S (hM H.size) cw (g_preV hK hPc hDc hq hc) rfl hn hsz hst (lv_room hrm) hdg hf) hS (fun q _ h => hFc q h) hFc (fun u t H1 locs1 ht hvm hw hB hz1 hk1 hS1 => ?_)
  obtain ⟨hP1, hD1⟩ := hB
  rw [ht] at hP1
  obtain ⟨h1, h2⟩ := g_join hP hD hk1 hFc hP1 hD1
  exact kk H1 locs1 h1 h2 hS1
/-- a static method without a world -/
theorem gcSi {f : Int32} (S : CallFix p m c cc nL s args Ts own) (hM : gMi l E y ws2 rm2 As [] f []) (cw : CallB R s args own index y bytes maxL ret ws2 rm2 0 0 n ∧ (Cond.static y).before args s = true) (hK : gKn E s) (hP : va_P E.1 vwCl w H) (hD : va_D A w) (hS : va_S A s.heap H locs) (hA : ∀ q, s.heap.size ≤ q → A q) (hn : As.length = n) (hsz : ls.size = nL) (hst : st = As.reverse ++ rest) (hrm : (rest.map fun v => v.category).sum ≤ 8) (hdg : decode cc pc = .ok (.invokestatic index, 3)) (hf : cells ≤ R.cells ∧ slots ≤ R.slots)
    (kk : ∀ (H1 : Heap) (locs1 : List Loc), va_P E.1 vwCl w H1 → va_D A w → va_S A s.heap H1 locs1 → W p l e R s m args below meth c H1 locs1 cells slots Q (F0 m (pc + 3) ls (.int f :: rest))) : W p l e R s m args below meth c H locs cells slots Q (F0 m pc ls st) := by
  have hFc : ∀ q, va_A [] H.size q → A q := g_free (pre := []) (wc := []) (post := w) hD hS hA
  refine va_calli (va_runS (As := As) (rest := rest) S (hM H.size) cw (g_preS hK gP_nil (gD_nil (A := A))) rfl hn hsz hst (lv_room hrm) hdg hf) hS (fun q _ h => hFc q h) hFc (fun r u t H1 locs1 ht hvm hw hB hz1 hk1 hS1 => ?_)
  obtain ⟨hP1, hD1⟩ := hB
  rw [ht] at hP1
  obtain ⟨h1, h2⟩ := g_join (pre := []) (wc := []) (post := w) hP hD hk1 hFc hP1 hD1
  subst hw
  exact kk H1 locs1 h1 h2 hS1
/-- the same of a nest mate -/
theorem gcNi {f : Int32} (S : CallFix p m c cc nL s args Ts own) (hM : gMi l E y ws2 rm2 As [] f []) (cw : va_CN R s args own index y host bytes maxL ret ws2 rm2 0 0 n ∧ (Cond.static y).before args s = true ∧ True) (hK : gKn E s) (hP : va_P E.1 vwCl w H) (hD : va_D A w) (hS : va_S A s.heap H locs) (hA : ∀ q, s.heap.size ≤ q → A q) (hn : As.length = n) (hsz : ls.size = nL) (hst : st = As.reverse ++ rest) (hrm : (rest.map fun v => v.category).sum ≤ 8) (hdg : decode cc pc = .ok (.invokestatic index, 3)) (hf : cells ≤ R.cells ∧ slots ≤ R.slots)
    (kk : ∀ (H1 : Heap) (locs1 : List Loc), va_P E.1 vwCl w H1 → va_D A w → va_S A s.heap H1 locs1 → W p l e R s m args below meth c H1 locs1 cells slots Q (F0 m (pc + 3) ls (.int f :: rest))) : W p l e R s m args below meth c H locs cells slots Q (F0 m pc ls st) := by
  have hFc : ∀ q, va_A [] H.size q → A q := g_free (pre := []) (wc := []) (post := w) hD hS hA
  refine va_calli (va_runSN (As := As) (rest := rest) S (hM H.size) cw (g_preS hK gP_nil (gD_nil (A := A))) rfl hn hsz hst (lv_room hrm) hdg hf) hS (fun q _ h => hFc q h) hFc (fun r u t H1 locs1 ht hvm hw hB hz1 hk1 hS1 => ?_)
  obtain ⟨hP1, hD1⟩ := hB
  rw [ht] at hP1
  obtain ⟨h1, h2⟩ := g_join (pre := []) (wc := []) (post := w) hP hD hk1 hFc hP1 hD1
  subst hw
  exact kk H1 locs1 h1 h2 hS1
end CALLS
section LCMP
variable {p : Program} {l : Launch} {e : Env} {R : Room} {s : State} {m : MethodId} {args : Array Value} {below : List Frame} {meth : Method} {c : Code} {H : Heap} {locs : List Loc} {cells slots : Nat} {Q : State → Prop} {cc : ByteArray} {x y : Int64} {pc tgt : Nat} {ls : Array Slot} {rest : List Value} {off : Int}
theorem gcmp_le (x y : Int64) : (lg_cmp x y ≤ 0) ↔ x ≤ y := by
  unfold lg_cmp
  by_cases h1 : y < x
  · simp only [gt_iff_lt, if_pos h1]
    exact ⟨fun h => absurd h (by decide), fun h => absurd h (by rw [Int64.le_iff_toInt_le]; rw [Int64.lt_iff_toInt_lt] at h1; omega)⟩
  · simp only [gt_iff_lt, if_neg h1]
    have h3 : x ≤ y := by rw [Int64.le_iff_toInt_le]; rw [Int64.lt_iff_toInt_lt] at h1; omega
    by_cases h2 : x = y
    · simp only [if_pos h2]; exact ⟨fun _ => h3, fun _ => by decide⟩
    · simp only [if_neg h2]; exact ⟨fun _ => h3, fun _ => by decide⟩
theorem gcmp_lt (x y : Int64) : (lg_cmp x y < 0) ↔ x < y := by
  unfold lg_cmp
  by_cases h1 : y < x
  · simp only [gt_iff_lt, if_pos h1]
    exact ⟨fun h => absurd h (by decide), fun h => absurd h (by rw [Int64.lt_iff_toInt_lt] at h1 ⊢; omega)⟩
  · simp only [gt_iff_lt, if_neg h1]
    by_cases h2 : x = y
    · simp only [if_pos h2]; exact ⟨fun h => absurd h (by decide), fun h => absurd h (by rw [h2, Int64.lt_iff_toInt_lt]; omega)⟩
    · simp only [if_neg h2]
      refine ⟨fun _ => ?_, fun _ => by decide⟩
      rw [Int64.lt_iff_toInt_lt] at h1 ⊢
      rw [← Int64.toInt_inj] at h2
      omega
theorem gcmp_eq (x y : Int64) : (lg_cmp x y = 0) ↔ x = y := by
  unfold lg_cmp
  by_cases h1 : y < x
  · simp only [gt_iff_lt, if_pos h1]
    exact ⟨fun h => absurd h (by decide), fun h => absurd h1 (by rw [h, Int64.lt_iff_toInt_lt]; omega)⟩
  · simp only [gt_iff_lt, if_neg h1]
    by_cases h2 : x = y
    · simp only [if_pos h2]; exact ⟨fun _ => h2, fun _ => trivial⟩
    · simp only [if_neg h2]; exact ⟨fun h => absurd h (by decide), fun h => absurd h h2⟩
theorem gcmp_gt (x y : Int64) : (0 < lg_cmp x y) ↔ y < x := by
  have h := gcmp_le x y
  rw [Int32.lt_iff_toInt_lt, Int64.lt_iff_toInt_lt]
  rw [Int32.le_iff_toInt_le, Int64.le_iff_toInt_le] at h
  omega
theorem gcmp_ge (x y : Int64) : (0 ≤ lg_cmp x y) ↔ y ≤ x := lg_cmp_ge x y
theorem gl_le (hx : p.tables.exec = Jvm.exec) (hb : c.code = cc) (hd : decode cc pc = .ok (.lcmp, 1)) (hd2 : decode cc (pc + 1) = .ok (.ifCond .le off, 3)) (ht : ((pc + 1 : Nat) : Int) + off = (tgt : Int)) (kt : x ≤ y → W p l e R s m args below meth c H locs cells slots Q (F0 m tgt ls rest)) (kf : ¬ x ≤ y → W p l e R s m args below meth c H locs cells slots Q (F0 m (pc + 4) ls rest)) : W p l e R s m args below meth c H locs cells slots Q (F0 m pc ls (.long y :: .long x :: rest)) :=
  W.lcmp hx hb hd (lv_if_le hx hb hd2 ht (fun h => kt ((gcmp_le x y).mp h)) (fun h => kf (fun z => h ((gcmp_le x y).mpr z))))
theorem gl_lt (hx : p.tables.exec = Jvm.exec) (hb : c.code = cc) (hd : decode cc pc = .ok (.lcmp, 1)) (hd2 : decode cc (pc + 1) = .ok (.ifCond .lt off, 3)) (ht : ((pc + 1 : Nat) : Int) + off = (tgt : Int)) (kt : x < y → W p l e R s m args below meth c H locs cells slots Q (F0 m tgt ls rest)) (kf : ¬ x < y → W p l e R s m args below meth c H locs cells slots Q (F0 m (pc + 4) ls rest)) : W p l e R s m args below meth c H locs cells slots Q (F0 m pc ls (.long y :: .long x :: rest)) :=
  W.lcmp hx hb hd (lv_if_lt hx hb hd2 ht (fun h => kt ((gcmp_lt x y).mp h)) (fun h => kf (fun z => h ((gcmp_lt x y).mpr z))))
theorem gl_ge (hx : p.tables.exec = Jvm.exec) (hb : c.code = cc) (hd : decode cc pc = .ok (.lcmp, 1)) (hd2 : decode cc (pc + 1) = .ok (.ifCond .ge off, 3)) (ht : ((pc + 1 : Nat) : Int) + off = (tgt : Int)) (kt : y ≤ x → W p l e R s m args below meth c H locs cells slots Q (F0 m tgt ls rest)) (kf : ¬ y ≤ x → W p l e R s m args below meth c H locs cells slots Q (F0 m (pc + 4) ls rest)) : W p l e R s m args below meth c H locs cells slots Q (F0 m pc ls (.long y :: .long x :: rest)) :=
  W.lcmp hx hb hd (lv_if_ge hx hb hd2 ht (fun h => kt ((gcmp_ge x y).mp h)) (fun h => kf (fun z => h ((gcmp_ge x y).mpr z))))
theorem gl_gt (hx : p.tables.exec = Jvm.exec) (hb : c.code = cc) (hd : decode cc pc = .ok (.lcmp, 1)) (hd2 : decode cc (pc + 1) = .ok (.ifCond .gt off, 3)) (ht : ((pc + 1 : Nat) : Int) + off = (tgt : Int)) (kt : y < x → W p l e R s m args below meth c H locs cells slots Q (F0 m tgt ls rest)) (kf : ¬ y < x → W p l e R s m args below meth c H locs cells slots Q (F0 m (pc + 4) ls rest)) : W p l e R s m args below meth c H locs cells slots Q (F0 m pc ls (.long y :: .long x :: rest)) :=
  W.lcmp hx hb hd (lv_if_gt hx hb hd2 ht (fun h => kt ((gcmp_gt x y).mp h)) (fun h => kf (fun z => h ((gcmp_gt x y).mpr z))))
theorem gl_eq (hx : p.tables.exec = Jvm.exec) (hb : c.code = cc) (hd : decode cc pc = .ok (.lcmp, 1)) (hd2 : decode cc (pc + 1) = .ok (.ifCond .eq off, 3)) (ht : ((pc + 1 : Nat) : Int) + off = (tgt : Int)) (kt : x = y → W p l e R s m args below meth c H locs cells slots Q (F0 m tgt ls rest)) (kf : ¬ x = y → W p l e R s m args below meth c H locs cells slots Q (F0 m (pc + 4) ls rest)) : W p l e R s m args below meth c H locs cells slots Q (F0 m pc ls (.long y :: .long x :: rest)) :=
  W.lcmp hx hb hd (lv_if_eq hx hb hd2 ht (fun h => kt ((gcmp_eq x y).mp h)) (fun h => kf (fun z => h ((gcmp_eq x y).mpr z))))
theorem gl_ne (hx : p.tables.exec = Jvm.exec) (hb : c.code = cc) (hd : decode cc pc = .ok (.lcmp, 1)) (hd2 : decode cc (pc + 1) = .ok (.ifCond .ne off, 3)) (ht : ((pc + 1 : Nat) : Int) + off = (tgt : Int)) (kt : ¬ x = y → W p l e R s m args below meth c H locs cells slots Q (F0 m tgt ls rest)) (kf : x = y → W p l e R s m args below meth c H locs cells slots Q (F0 m (pc + 4) ls rest)) : W p l e R s m args below meth c H locs cells slots Q (F0 m pc ls (.long y :: .long x :: rest)) :=
  W.lcmp hx hb hd (lv_if_ne hx hb hd2 ht (fun h => kt (fun z => h ((gcmp_eq x y).mpr z))) (fun h => kf ((gcmp_eq x y).mp h)))
end LCMP
/-! worlds -/
/-- a battery: its thirteen numbers, the curve's points, the bands' sums, the bands' counts -/
abbrev Bat : Type := (Nat → Int32) × (Nat → Int32) × (Nat → Int64) × (Nat → Int32)
abbrev wCu (E : gEnv) (q0 q1 : Nat) (P : Nat → Int32) : va_W := [(q0, .inr (2, [.ref q1])), (q1, .inl (eI E, 11, .inl P))]
abbrev wBn (E : gEnv) (q0 q1 q2 : Nat) (S : Nat → Int64) (N : Nat → Int32) : va_W := [(q0, .inr (0, [.ref q1, .ref q2])), (q1, .inl (eJ E, 22, .inr (.inl S))), (q2, .inl (eI E, 22, .inl N))]
abbrev wB (E : gEnv) (a : Nat → Nat) (B : Bat) : va_W := [(a 0, .inr (1, [.ref (a 1), .ref (a 3), .int (B.1 0), .int (B.1 1), .int (B.1 2), .int (B.1 3), .int (B.1 4), .int (B.1 5), .int (B.1 6), .int (B.1 7), .int (B.1 8), .int (B.1 9), .int (B.1 10), .int (B.1 11), .int (B.1 12)])), (a 1, .inr (2, [.ref (a 2)])), (a 2, .inl (eI E, 11, .inl B.2.1)), (a 3, .inr (0, [.ref (a 4), .ref (a 5)])), (a 4, .inl (eJ E, 22, .inr (.inl B.2.2.1))), (a 5, .inl (eI E, 22, .inl B.2.2.2))]
/-- the text: length, orders, place, number; bytes; kinds; firsts; seconds -/
abbrev Txt : Type := (Nat → Int32) × (Nat → Int32) × (Nat → Int32) × (Nat → Int32) × (Nat → Int32)
abbrev wT (E : gEnv) (t : Nat → Nat) (X : Txt) : va_W := [(t 0, .inr (4, [.ref (t 1), .int (X.1 0), .ref (t 2), .ref (t 3), .ref (t 4), .int (X.1 1), .int (X.1 2), .int (X.1 3)])), (t 1, .inl (eB E, 120, .inl X.2.1)), (t 2, .inl (eI E, 40, .inl X.2.2.1)), (t 3, .inl (eI E, 40, .inl X.2.2.2.1)), (t 4, .inl (eI E, 40, .inl X.2.2.2.2))]
/-- the reference: states, bytes, least, greatest, orders, spot, wrongAt; hash; now; aside; past; refusals; text; letters; numbers -/
abbrev Mdl : Type := (Nat → Int32) × Int64 × (Nat → Int64) × (Nat → Int64) × (Nat → Int64) × (Nat → Int32) × (Nat → Int32) × (Nat → Int32) × (Nat → Int32)
abbrev wM (E : gEnv) (a : Nat → Nat) (M : Mdl) : va_W := [(a 0, .inr (6, [.ref (a 1), .ref (a 2), .ref (a 3), .int (M.1 0), .ref (a 4), .ref (a 5), .int (M.1 1), .int (M.1 2), .int (M.1 3), .ref (a 6), .ref (a 7), .int (M.1 4), .int (M.1 5), .int (M.1 6), .long M.2.1])), (a 1, .inl (eJ E, 68, .inr (.inl M.2.2.1))), (a 2, .inl (eJ E, 68, .inr (.inl M.2.2.2.1))), (a 3, .inl (eJ E, 340, .inr (.inl M.2.2.2.2.1))), (a 4, .inl (eI E, 3, .inl M.2.2.2.2.2.1)), (a 5, .inl (eI E, 120, .inl M.2.2.2.2.2.2.1)), (a 6, .inl (eI E, 60, .inl M.2.2.2.2.2.2.2.1)), (a 7, .inl (eI E, 120, .inl M.2.2.2.2.2.2.2.2))]
/-- a truth as the machine has it -/
def bz (P : Prop) [Decidable P] : Int32 := if P then 1 else 0
theorem bz_t {P : Prop} [Decidable P] (h : P) : bz P = 1 := if_pos h
theorem bz_f {P : Prop} [Decidable P] (h : ¬ P) : bz P = 0 := if_neg h
theorem bz_0 {P : Prop} [Decidable P] : bz P = 0 ↔ ¬ P := by
  by_cases h : P
  · rw [bz_t h]; exact ⟨fun z => absurd z (by decide), fun z => absurd h z⟩
  · rw [bz_f h]; exact ⟨fun _ => h, fun _ => rfl⟩
theorem bz_n {P : Prop} [Decidable P] : narrow .boolean (.int (bz P)) = .int (bz P) := by
  by_cases h : P
  · rw [bz_t h]; rfl
  · rw [bz_f h]; rfl
