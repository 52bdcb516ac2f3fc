/-! constructors -/
def gPreN (E : gEnv) (w : va_W) (sz : Nat) (U : State) : Prop := gPre E w sz U ∧ va_AO RX1 U
theorem gPreN_blind {E : gEnv} {w : va_W} {sz : Nat} {av : List Value} : FrameBlind (va_Pc av (gPreN E w sz)) := by
  intro a U g mk q
  obtain ⟨q0, q1, q2⟩ := q
  obtain ⟨z0, z1⟩ := gPre_blind (av := av) a U g mk ⟨q0, q1⟩
  exact ⟨z0, z1, va_AO.moved (u := U) (U := U.calling g mk a) (Vm.Alike.refl U.vm) q2⟩
/-- a constructor: what it makes lies at new addresses, told by u -/
def gMn {σ : Type} (l : Launch) (E : gEnv) (y : MethodName) (ws : List Cond) (rm : Room) (av : List Value) (w : va_W) (Ps : σ → Prop) (Wf : σ → va_W) : Prop := ∀ sz : Nat, Met l y ws rm (va_Pc av (gPreN E w sz)) (va_Qv Ps (fun u t => gPost E (Wf u) (va_A w sz) t) (va_A w sz)) rm.cells rm.slots (va_A w sz)
theorem gMn_of {σ : Type} {l : Launch} {E : gEnv} {y : MethodName} {ws ws' : List Cond} {rm : Room} {av : List Value} {w : va_W} {cc : ByteArray} {maxL : Nat} {ret : Option FieldType} {Ps : σ → Prop} {Wf : σ → va_W} (hy : plainName y.cls = true) (hw : ws = Cond.code y cc maxL ret :: ws') (hret : ret = none) (hnm : y.name = "<init>") (hlen : (lg_sl av).length ≤ maxL)
    (body : ∀ (p : Program) (e : Env) (s : State) (m : MethodId) (args : Array Value) (below : List Frame) (meth : Method) (c : Code) (A : Nat → Prop) (Q : State → Prop) (ls : Array Slot), gB0 l E y ws cc maxL av w p s m args c A ls → va_AO RX1 s → meth.name = "<init>" → (∀ (H : Heap) (locs : List Loc) (pc : Nat) (ls : Array Slot) (u : σ) (k n : Nat), k ≤ rm.cells → n ≤ rm.slots → Ps u → va_P E.1 vwCl (Wf u) H → va_D A (Wf u) → va_S A s.heap H locs → decode cc pc = .ok (.return_, 1) → W p l e rm s m args below meth c H locs k n Q (F0 m pc ls [])) → W p l e rm s m args below meth c s.heap [] 0 0 Q (F0 m 0 ls [])) : gMn l E y ws rm av w Ps Wf := by
  intro sz
  refine Met.ofW (cc := cc) (maxL := maxL) (ret := ret) hy hw ?_
  intro p e s m args below meth c s₁ B hml hv
  obtain ⟨rfl, ⟨hsz, hP, hK, hD0⟩, hAO⟩ := hv
  have hr := B.returns
  have hts := atoms_spec (ws := ws) B.pre
  have hown : s.vm.findClass y.cls = some m.cls := findClass_of_methodNamed B.named
  have hin : meth.name = "<init>" := (name_of_methodNamed B.named B.method).1.trans hnm
  subst hsz
  have hD := hD0.self (sz := s.heap.size)
  have hl := lv_entry av (n := maxL) hlen
  rw [lg_entry_eq]
  generalize (lg_sl av ++ List.replicate (maxL - (lg_sl av).length) Slot.unset).toArray = ls at hl ⊢
  exact body p e s m _ below meth c _ _ ls ⟨B.exec, B.bytes, hml, hown, hts, hK, hP, hD, fun q h => Or.inr h, va_S.rf, hl⟩ hAO hin (fun H locs pc ls u k n hk hn hu hP hD hS hd => W.widen hk hn (W.vret B.exec B.bytes (hr.trans hret) (fun t ht hW => ⟨⟨u, rfl, hu, by rw [ht]; exact hP, hD⟩, hS.F ht⟩) hS.2.2 hd B.notSynchronized))
section CTOR
variable {p : Program} {l : Launch} {e : Env} {R : Room} {s : State} {m : MethodId} {args : Array Value} {below : List Frame} {meth : Method} {c : Code} {H H0 : Heap} {locs : List Loc} {cells slots : Nat} {Q : State → Prop}
variable {E : gEnv} {A : Nat → Prop} {cc bytes : ByteArray} {nL maxL index pc : Nat} {Ts ws2 : List Cond} {rm2 : Room} {own : String} {y : MethodName} {b : Nat} {rest st : List Value} {ls : Array Slot} {w wc pre post ws : va_W}
theorem gcI {σ : Type} {Ps : σ → Prop} {Wf : σ → va_W} (S : CallFix p m c cc nL s args Ts own) (hM : gMn l E y ws2 rm2 [.ref b] wc Ps Wf) (cw : CallB R s args own index y bytes maxL none ws2 rm2 rm2.cells rm2.slots 0 ∧ y.name = "<init>" ∧ (Cond.instanceMethod y).before args s = true) (hK : gKn E s) (hAO : va_AO RX1 s) (hP : va_P E.1 vwCl w H) (hD : va_D A w) (hS : va_S A s.heap H locs) (hA : ∀ q, s.heap.size ≤ q → A q) (hw : w = pre ++ (wc ++ post)) (hsz : ls.size = nL) (hst : st = .ref b :: rest) (hrm : (rest.map fun v => v.category).sum ≤ 8) (hdg : decode cc pc = .ok (.invokespecial index, 3)) (hf : cells + rm2.cells ≤ R.cells ∧ slots + rm2.slots ≤ R.slots)
    (kk : ∀ (u : σ) (H1 : Heap) (locs1 : List Loc), Ps u → va_P E.1 vwCl (pre ++ (Wf u ++ post)) H1 → va_D A (pre ++ (Wf u ++ post)) → va_S A s.heap H1 locs1 → W p l e R s m args below meth c H1 locs1 (cells + rm2.cells) (slots + rm2.slots) Q (F0 m (pc + 3) ls rest)) : W p l e R s m args below meth c H locs cells slots Q (F0 m pc ls st) := by
  subst hw
  have hPc := gP_l (gP_r hP)
  have hDc := gD_l (gD_r hD)
  have hFc := g_free hD hS hA
  refine va_callv (va_runI (As := []) (rest := rest) S (hM H.size) cw ⟨gPreN_blind, fun U hU hW => ⟨rfl, ⟨by rw [hU], by rw [hU]; exact hPc, gKn_warm hW hK, hDc.weaken (fun _ _ _ _ => trivial)⟩, va_AO.moved hW.alike hAO⟩⟩ rfl rfl hsz hst (lv_room hrm) hdg hf) hS (fun q _ h => hFc q h) hFc (fun u t H1 locs1 ht hvm hw hB hz1 hk1 hS1 => ?_)
  obtain ⟨hP1, hD1⟩ := hB
  rw [ht] at hP1
  obtain ⟨h1, h2⟩ := g_join hP hD hk1 hFc hP1 hD1
  exact kk u H1 locs1 hw h1 h2 hS1
theorem g_cls {cA : ClassId} {ty : FieldType} {k : Nat} {cE : ClassId} (hK : gKn E s) (h : va_K E.1 vwCl (gTy E ++ [(cA, ty)]) s) (hk : (gTy E)[k]? = some (cE, ty)) (hr : ∀ c, va_RA s c ty → s.vm.findClass ("[" ++ ty.toString) = some c) : cA = cE := by
  have h1 := hr _ (h.2 4 (cA, ty) rfl).2
  have h2 := hr _ (hK.1.2 k (cE, ty) hk).2
  exact Option.some.inj (h1.symm.trans h2)
theorem g_newi (hx : p.tables.exec = Jvm.exec) (hb : c.code = cc) (harr : (Cond.arrayClass .int).before args s = true) (hK : gKn E s) (hP : va_P E.1 vwCl ws H) (hD : va_D A ws) (hS : va_S A H0 H locs) (hA : ∀ q, H0.size ≤ q → A q) {n : Int32} {N' : Nat} (hn : ¬ n < 0) (hN : n.toNatClampNeg = N') (hbytes : N' * componentBytes .int ≤ 536870912) (hcells : cells + 1 ≤ R.cells) (hslots : slots + N' ≤ R.slots) (hdg : decode cc pc = .ok (.newarray .int, 2))
    (kk : ∀ (q : Nat) (H1 : Heap), va_P E.1 vwCl (ws ++ [(q, .inl (eI E, N', .inl (fun _ => 0)))]) H1 → va_D A (ws ++ [(q, .inl (eI E, N', .inl (fun _ => 0)))]) → va_S A H0 H1 locs → W p l e R s m args below meth c H1 locs (cells + 1) (slots + N') Q (F0 m (pc + 2) ls (.ref q :: rest))) : W p l e R s m args below meth c H locs cells slots Q (F0 m pc ls (.int n :: rest)) := by
  refine va_newa (atype := .int) (ty := .int) (a0 := (N', .inl (fun _ => 0))) hx hb harr rfl hK.1 hP hD hS hA (fun _ => rfl) hn hN hbytes hcells hslots hdg (fun q cA H1 hK1 hP hD hS => ?_)
  obtain rfl : cA = eI E := g_cls (k := 0) hK hK1 rfl (fun _ h => h)
  exact kk q H1 hP hD hS
theorem g_newl (hx : p.tables.exec = Jvm.exec) (hb : c.code = cc) (harr : (Cond.arrayClass .long).before args s = true) (hK : gKn E s) (hP : va_P E.1 vwCl ws H) (hD : va_D A ws) (hS : va_S A H0 H locs) (hA : ∀ q, H0.size ≤ q → A q) {n : Int32} {N' : Nat} (hn : ¬ n < 0) (hN : n.toNatClampNeg = N') (hbytes : N' * componentBytes .long ≤ 536870912) (hcells : cells + 1 ≤ R.cells) (hslots : slots + N' ≤ R.slots) (hdg : decode cc pc = .ok (.newarray .long, 2))
    (kk : ∀ (q : Nat) (H1 : Heap), va_P E.1 vwCl (ws ++ [(q, .inl (eJ E, N', .inr (.inl (fun _ => 0))))]) H1 → va_D A (ws ++ [(q, .inl (eJ E, N', .inr (.inl (fun _ => 0))))]) → va_S A H0 H1 locs → W p l e R s m args below meth c H1 locs (cells + 1) (slots + N') Q (F0 m (pc + 2) ls (.ref q :: rest))) : W p l e R s m args below meth c H locs cells slots Q (F0 m pc ls (.int n :: rest)) := by
  refine va_newa (atype := .long) (ty := .long) (a0 := (N', .inr (.inl (fun _ => 0)))) hx hb harr rfl hK.1 hP hD hS hA (fun _ => rfl) hn hN hbytes hcells hslots hdg (fun q cA H1 hK1 hP hD hS => ?_)
  obtain rfl : cA = eJ E := g_cls (k := 1) hK hK1 rfl (fun _ h => h)
  exact kk q H1 hP hD hS
theorem g_newb (hx : p.tables.exec = Jvm.exec) (hb : c.code = cc) (harr : (Cond.arrayClass .byte).before args s = true) (hK : gKn E s) (hP : va_P E.1 vwCl ws H) (hD : va_D A ws) (hS : va_S A H0 H locs) (hA : ∀ q, H0.size ≤ q → A q) {n : Int32} {N' : Nat} (hn : ¬ n < 0) (hN : n.toNatClampNeg = N') (hbytes : N' * componentBytes .byte ≤ 536870912) (hcells : cells + 1 ≤ R.cells) (hslots : slots + N' ≤ R.slots) (hdg : decode cc pc = .ok (.newarray .byte, 2))
    (kk : ∀ (q : Nat) (H1 : Heap), va_P E.1 vwCl (ws ++ [(q, .inl (eB E, N', .inl (fun _ => 0)))]) H1 → va_D A (ws ++ [(q, .inl (eB E, N', .inl (fun _ => 0)))]) → va_S A H0 H1 locs → W p l e R s m args below meth c H1 locs (cells + 1) (slots + N') Q (F0 m (pc + 2) ls (.ref q :: rest))) : W p l e R s m args below meth c H locs cells slots Q (F0 m pc ls (.int n :: rest)) := by
  refine va_newa (atype := .byte) (ty := .byte) (a0 := (N', .inl (fun _ => 0))) hx hb harr rfl hK.1 hP hD hS hA (fun _ => rfl) hn hN hbytes hcells hslots hdg (fun q cA H1 hK1 hP hD hS => ?_)
  obtain rfl : cA = eB E := g_cls (k := 2) hK hK1 rfl (fun _ h => h)
  exact kk q H1 hP hD hS
theorem g_newo (hx : p.tables.exec = Jvm.exec) (hb : c.code = cc) (hown : s.vm.findClass own = some m.cls) (hcl : (Cond.classLink own index RX1).before args s = true) (hAO : va_AO RX1 s) (hK : gKn E s) (hP : va_P E.1 vwCl ws H) (hD : va_D A ws) (hS : va_S A H0 H locs) (hA : ∀ q, H0.size ≤ q → A q) {n : Int32} {N' : Nat} (hn : ¬ n < 0) (hN : n.toNatClampNeg = N') (hbytes : N' * 4 ≤ 536870912) (hcells : cells + 1 ≤ R.cells) (hslots : slots + N' ≤ R.slots) (hdg : decode cc pc = .ok (.anewarray index, 3))
    (kk : ∀ (q : Nat) (H1 : Heap), va_P E.1 vwCl (ws ++ [(q, .inl (eO E, N', .inr (.inr (.inr (.inr (fun _ => none))))))]) H1 → va_D A (ws ++ [(q, .inl (eO E, N', .inr (.inr (.inr (.inr (fun _ => none))))))]) → va_S A H0 H1 locs → W p l e R s m args below meth c H1 locs (cells + 1) (slots + N') Q (F0 m (pc + 3) ls (.ref q :: rest))) : W p l e R s m args below meth c H locs cells slots Q (F0 m pc ls (.int n :: rest)) := by
  refine va_newq hx hb hown hcl hAO hK.1 hP hD hS hA hn hN hbytes hcells hslots hdg (fun q cA H1 hK1 hP hD hS => ?_)
  obtain rfl : cA = eO E := g_cls (k := 3) hK hK1 rfl (fun _ h => h.choose_spec.choose_spec.2.2.2)
  exact kk q H1 hP hD hS
end CTOR
def lpC : Nat → Nat → Int32
  | 0 => fun _ => 0
  | i + 1 => upd (lpC i) i (3000 + (100 * (nI i)))
def z0B : Nat → Int32 := fun k => if k = 1 then 1000 else if k = 2 then 500 else if k = 3 then 1000 else if k = 4 then 1 else if k = 5 then 10 else if k = 9 then (-10000001) else if k = 10 then (-10000001) else if k = 12 then 100 else 0
/-- a new battery -/
def Bat0 : Bat := (z0B, lpC 11, fun _ => 0, fun _ => 0)
def Txt0 : Txt := (fun _ => 0, fun _ => 0, fun _ => 0, fun _ => 0, fun _ => 0)
def lpNw : Nat → Nat → Int64
  | 0 => vp_updL (vp_updL (vp_updL (vp_updL (vp_updL (vp_updL (vp_updL (vp_updL (fun _ => 0) 1 1000) 2 500) 3 1000) 4 100) 9 (-10000001)) 10 (-10000001)) 11 1) 12 10
  | i + 1 => vp_updL (lpNw i) (13 + i) (3000 + (100 * ((nI i).toInt64)))
/-- a new reference -/
def Mdl0 : Mdl := (fun _ => 0, 0, lpNw 11, fun _ => 0, fun _ => 0, fun _ => 0, fun _ => 0, fun _ => 0, fun _ => 0)

abbrev rX2_init : Room := { frames := 1, cells := 1, slots := 11, locals := 12 }
theorem mm_X2_init_1 : Cond.methodLink RX2 3 objectInit ∈ wsX2_init := List.mem_of_getElem? (i := 1) rfl
theorem mm_X2_init_2 : Cond.instanceMethod objectInit ∈ wsX2_init := List.mem_of_getElem? (i := 2) rfl
theorem mm_X2_init_3 : Cond.code objectInit ⟨#[0xb1]⟩ 1 none ∈ wsX2_init := List.mem_of_getElem? (i := 3) rfl
theorem mm_X2_init_4 : Cond.arrayClass .int ∈ wsX2_init := List.mem_of_getElem? (i := 4) rfl
theorem mm_X2_init_5 : Cond.fieldLink RX2 11 "GaugeBounds$Curve" "points" "[I" ∈ wsX2_init := List.mem_of_getElem? (i := 5) rfl
theorem ii_X2_init_X2 : ∀ w ∈ wsX20, w ∈ wsX2_init := fun _ h => List.mem_cons_of_mem _ (List.mem_append_right _ (h))
theorem qiX2_init : yX2_init.cls ≠ "java/lang/invoke/MethodHandle" ∧ yX2_init.cls ≠ "java/lang/invoke/VarHandle" ∧ (parseMethodDescriptor yX2_init.desc).map (fun d => d.parameters.length) = some 0 := by decide +kernel
set_option maxHeartbeats 4000000 in
set_option maxRecDepth 100000 in
theorem kX2_init (l : Launch) (E : gEnv) (h0 : Nat) : gMn (σ := Nat) l E yX2_init wsX2_init rX2_init [.ref h0] [(h0, .inr (2, [.null]))] (fun u => True) (fun u => wCu E h0 u (lpC 11)) := by
  refine gMn_of (cc := cX2_init) (maxL := 2) (ret := none) (by decide) rfl rfl rfl (Nat.le_of_ble_eq_true rfl) ?_
  intro p e s m args below meth c A Q ls hB hAO hin hQ
  obtain ⟨hx, hb, hml, hown, hts, hK, hP, hD, hA, hS, hl⟩ := hB
  have hown : s.vm.findClass RX2 = some m.cls := hown
  have hP : va_P E.1 vwCl [(h0, .inr (2, [.null]))] s.heap := hP
  have hD : va_D A [(h0, .inr (2, [.null]))] := hD
  have hl : lv_has ls 2 [(0, .ref h0)] := hl
  refine lv_aload_n (pc := 0) hx hb dX2_init_0 rfl (lv_at hl 0 rfl) ?_
  refine W.objInit hx hb hown (hts _ mm_X2_init_1) (hts _ mm_X2_init_2) (hts _ mm_X2_init_3) rfl (hl.1.trans hml.symm) rfl dX2_init_1 (Nat.le_of_ble_eq_true rfl) (Nat.le_of_ble_eq_true rfl) ?_
  refine W.eq (g2 := F0 m 4 ls []) rfl ?_
  refine lv_aload_n (pc := 4) hx hb dX2_init_4 rfl (lv_at hl 0 rfl) ?_
  refine lv_bipush (v := 11) (pc := 5) hx hb dX2_init_5 rfl ?_
  refine g_newi (N' := 11) (pc := 7) hx hb (hts _ mm_X2_init_4) hK hP hD hS hA (by decide) (by decide) (by decide) (Nat.le_of_ble_eq_true rfl) (Nat.le_of_ble_eq_true rfl) dX2_init_7 (fun q1 H hP hD hS => ?_)
  have hP : va_P E.1 vwCl [(h0, .inr (2, [.null])), (q1, .inl (eI E, 11, .inl (fun _ => 0)))] H := hP
  have hD : va_D A [(h0, .inr (2, [.null])), (q1, .inl (eI E, 11, .inl (fun _ => 0)))] := hD
  refine va_putF (D := E.1) (ci := 2) (v := .ref q1) (ty := tyX2 0) (C := RX2) (T := TX2) (N := 1) (pc := 9) hx hb hts ii_X2_init_X2 tyX2 tyX2_ok nmX2 hown hK.1 hP hD hS 0 rfl rfl 0 (by decide) (hts _ mm_X2_init_5) (fun _ h9 => h9) rfl hin rfl (by decide +kernel) rfl rfl (Nat.le_of_ble_eq_true rfl) dX2_init_9 (fun H locs hP hD hS => ?_)
  have hP : va_P E.1 vwCl [(h0, .inr (2, [.ref q1])), (q1, .inl (eI E, 11, .inl (fun _ => 0)))] H := hP
  have hD : va_D A [(h0, .inr (2, [.ref q1])), (q1, .inl (eI E, 11, .inl (fun _ => 0)))] := hD
  refine lv_iconst (v := 0) (pc := 12) hx hb dX2_init_12 rfl ?_
  refine lv_istore_n (lv' := [(1, .int 0), (0, .ref h0)]) (pc := 13) hx hb dX2_init_13 rfl hl (by decide) rfl (fun ls hl => ?_)
  have loop5 : ∀ (n3 i2 : Nat), i2 + n3 = 11 → ∀ (H : Heap) (locs : List Loc) (ls : Array Slot), va_P E.1 vwCl [(h0, .inr (2, [.ref q1])), (q1, .inl (eI E, 11, .inl (lpC i2)))] H → va_D A [(h0, .inr (2, [.ref q1])), (q1, .inl (eI E, 11, .inl (lpC i2)))] → va_S A s.heap H locs → lv_has ls 2 [(0, .ref h0), (1, .int (nI i2))] → W p l e rX2_init s m args below meth c H locs 1 11 Q (F0 m 14 ls []) := by
    intro n3
    induction n3 with
    | zero =>
      intro i2 hi H locs ls hP hD hS hl
      obtain rfl : i2 = 11 := by omega
      refine lv_iload_n (pc := 14) hx hb dX2_init_14 rfl (lv_at hl 1 rfl) ?_
      refine lv_bipush (v := 11) (pc := 15) hx hb dX2_init_15 rfl ?_
      refine lv_icmp_ge (tgt := 40) (pc := 17) hx hb dX2_init_17 (by decide) (fun c_6 => ?_) (fun c_6 => ?_)
      rotate_left
      · exact absurd (nI_le (a := 11) (b := 11) (by decide) (by decide)) c_6
      exact hQ _ _ _ _ q1 _ _ (Nat.le_of_ble_eq_true rfl) (Nat.le_of_ble_eq_true rfl) trivial hP hD hS dX2_init_40
    | succ n3 ih4 =>
      intro i2 hi H locs ls hP hD hS hl
      have hlt : i2 < 11 := by omega
      refine lv_iload_n (pc := 14) hx hb dX2_init_14 rfl (lv_at hl 1 rfl) ?_
      refine lv_bipush (v := 11) (pc := 15) hx hb dX2_init_15 rfl ?_
      refine lv_icmp_ge (tgt := 40) (pc := 17) hx hb dX2_init_17 (by decide) (fun c_7 => ?_) (fun c_7 => ?_)
      · exact absurd c_7 (nI_ge (a := i2) (b := 11) (by omega) (by decide))
      refine lv_aload_n (pc := 20) hx hb dX2_init_20 rfl (lv_at hl 0 rfl) ?_
      refine g_get (v := .ref q1) (pc := 21) hx hb hts ii_X2_init_X2 hown hK.1 hP 0 rfl rfl 0 (by decide) ⟨rfl, rfl, rfl⟩ mm_X2_init_5 rfl dX2_init_21 ?_
      refine lv_iload_n (pc := 24) hx hb dX2_init_24 rfl (lv_at hl 1 rfl) ?_
      refine lv_sipush (v := 3000) (pc := 25) hx hb dX2_init_25 rfl ?_
      refine lv_bipush (v := 100) (pc := 28) hx hb dX2_init_28 rfl ?_
      refine lv_iload_n (pc := 30) hx hb dX2_init_30 rfl (lv_at hl 1 rfl) ?_
      refine lv_imul (pc := 31) hx hb dX2_init_31 ?_
      refine lv_iadd (pc := 32) hx hb dX2_init_32 ?_
      refine g_topi (fun x8 ex8 => ?_)
      refine g_iast (j := i2) (w1 := [(h0, .inr (2, [.ref q1])), (q1, .inl (eI E, 11, .inl (upd (lpC i2) i2 x8)))]) (pc := 33) hx hb hK.1 hP hD hS 1 0 rfl rfl (vp_in_nI (by omega) (by decide)) (nI_clamp (by omega)) rfl dX2_init_33 (fun H locs hP hD hS => ?_)
      refine lv_iinc (v := nI (i2 + 1)) (lv' := [(1, .int (nI (i2 + 1))), (0, .ref h0)]) (pc := 34) hx hb dX2_init_34 hl (k := 1) rfl (nI_1 i2) (by decide) rfl (fun ls hl => ?_)
      refine lv_goto (tgt := 14) (pc := 37) hx hb dX2_init_37 (by decide) ?_
      subst ex8
      exact ih4 (i2 + 1) (by omega) _ _ _ hP hD hS (lv_sub hl [1, 0] rfl)
  exact loop5 11 0 (by decide) _ _ _ hP hD hS (lv_sub hl [1, 0] rfl)

abbrev rX0_init : Room := { frames := 1, cells := 2, slots := 44, locals := 12 }
theorem mm_X0_init_1 : Cond.methodLink RX0 3 objectInit ∈ wsX0_init := List.mem_of_getElem? (i := 1) rfl
theorem mm_X0_init_2 : Cond.instanceMethod objectInit ∈ wsX0_init := List.mem_of_getElem? (i := 2) rfl
theorem mm_X0_init_3 : Cond.code objectInit ⟨#[0xb1]⟩ 1 none ∈ wsX0_init := List.mem_of_getElem? (i := 3) rfl
theorem mm_X0_init_4 : Cond.arrayClass .long ∈ wsX0_init := List.mem_of_getElem? (i := 4) rfl
theorem mm_X0_init_5 : Cond.fieldLink RX0 11 "GaugeBounds$Bands" "sums" "[J" ∈ wsX0_init := List.mem_of_getElem? (i := 5) rfl
theorem mm_X0_init_6 : Cond.arrayClass .int ∈ wsX0_init := List.mem_of_getElem? (i := 6) rfl
theorem mm_X0_init_7 : Cond.fieldLink RX0 15 "GaugeBounds$Bands" "counts" "[I" ∈ wsX0_init := List.mem_of_getElem? (i := 7) rfl
theorem ii_X0_init_X0 : ∀ w ∈ wsX00, w ∈ wsX0_init := fun _ h => List.mem_cons_of_mem _ (List.mem_append_right _ (h))
theorem qiX0_init : yX0_init.cls ≠ "java/lang/invoke/MethodHandle" ∧ yX0_init.cls ≠ "java/lang/invoke/VarHandle" ∧ (parseMethodDescriptor yX0_init.desc).map (fun d => d.parameters.length) = some 0 := by decide +kernel
set_option maxHeartbeats 4000000 in
set_option maxRecDepth 100000 in
theorem kX0_init (l : Launch) (E : gEnv) (h0 : Nat) : gMn (σ := Nat × Nat) l E yX0_init wsX0_init rX0_init [.ref h0] [(h0, .inr (0, [.null, .null]))] (fun u => True) (fun u => wBn E h0 u.1 u.2 (fun _ => 0) (fun _ => 0)) := by
  refine gMn_of (cc := cX0_init) (maxL := 1) (ret := none) (by decide) rfl rfl rfl (Nat.le_of_ble_eq_true rfl) ?_
  intro p e s m args below meth c A Q ls hB hAO hin hQ
  obtain ⟨hx, hb, hml, hown, hts, hK, hP, hD, hA, hS, hl⟩ := hB
  have hown : s.vm.findClass RX0 = some m.cls := hown
  have hP : va_P E.1 vwCl [(h0, .inr (0, [.null, .null]))] s.heap := hP
  have hD : va_D A [(h0, .inr (0, [.null, .null]))] := hD
  have hl : lv_has ls 1 [(0, .ref h0)] := hl
  refine lv_aload_n (pc := 0) hx hb dX0_init_0 rfl (lv_at hl 0 rfl) ?_
  refine W.objInit hx hb hown (hts _ mm_X0_init_1) (hts _ mm_X0_init_2) (hts _ mm_X0_init_3) rfl (hl.1.trans hml.symm) rfl dX0_init_1 (Nat.le_of_ble_eq_true rfl) (Nat.le_of_ble_eq_true rfl) ?_
  refine W.eq (g2 := F0 m 4 ls []) rfl ?_
  refine lv_aload_n (pc := 4) hx hb dX0_init_4 rfl (lv_at hl 0 rfl) ?_
  refine lv_bipush (v := 22) (pc := 5) hx hb dX0_init_5 rfl ?_
  refine g_newl (N' := 22) (pc := 7) hx hb (hts _ mm_X0_init_4) hK hP hD hS hA (by decide) (by decide) (by decide) (Nat.le_of_ble_eq_true rfl) (Nat.le_of_ble_eq_true rfl) dX0_init_7 (fun q1 H hP hD hS => ?_)
  have hP : va_P E.1 vwCl [(h0, .inr (0, [.null, .null])), (q1, .inl (eJ E, 22, .inr (.inl (fun _ => 0))))] H := hP
  have hD : va_D A [(h0, .inr (0, [.null, .null])), (q1, .inl (eJ E, 22, .inr (.inl (fun _ => 0))))] := hD
  refine va_putF (D := E.1) (ci := 0) (v := .ref q1) (ty := tyX0 0) (C := RX0) (T := TX0) (N := 2) (pc := 9) hx hb hts ii_X0_init_X0 tyX0 tyX0_ok nmX0 hown hK.1 hP hD hS 0 rfl rfl 0 (by decide) (hts _ mm_X0_init_5) (fun _ h9 => h9) rfl hin rfl (by decide +kernel) rfl rfl (Nat.le_of_ble_eq_true rfl) dX0_init_9 (fun H locs hP hD hS => ?_)
  have hP : va_P E.1 vwCl [(h0, .inr (0, [.ref q1, .null])), (q1, .inl (eJ E, 22, .inr (.inl (fun _ => 0))))] H := hP
  have hD : va_D A [(h0, .inr (0, [.ref q1, .null])), (q1, .inl (eJ E, 22, .inr (.inl (fun _ => 0))))] := hD
  refine lv_aload_n (pc := 12) hx hb dX0_init_12 rfl (lv_at hl 0 rfl) ?_
  refine lv_bipush (v := 22) (pc := 13) hx hb dX0_init_13 rfl ?_
  refine g_newi (N' := 22) (pc := 15) hx hb (hts _ mm_X0_init_6) hK hP hD hS hA (by decide) (by decide) (by decide) (Nat.le_of_ble_eq_true rfl) (Nat.le_of_ble_eq_true rfl) dX0_init_15 (fun q2 H hP hD hS => ?_)
  have hP : va_P E.1 vwCl [(h0, .inr (0, [.ref q1, .null])), (q1, .inl (eJ E, 22, .inr (.inl (fun _ => 0)))), (q2, .inl (eI E, 22, .inl (fun _ => 0)))] H := hP
  have hD : va_D A [(h0, .inr (0, [.ref q1, .null])), (q1, .inl (eJ E, 22, .inr (.inl (fun _ => 0)))), (q2, .inl (eI E, 22, .inl (fun _ => 0)))] := hD
  refine va_putF (D := E.1) (ci := 0) (v := .ref q2) (ty := tyX0 1) (C := RX0) (T := TX0) (N := 2) (pc := 17) hx hb hts ii_X0_init_X0 tyX0 tyX0_ok nmX0 hown hK.1 hP hD hS 0 rfl rfl 1 (by decide) (hts _ mm_X0_init_7) (fun _ h9 => h9) rfl hin rfl (by decide +kernel) rfl rfl (Nat.le_of_ble_eq_true rfl) dX0_init_17 (fun H locs hP hD hS => ?_)
  have hP : va_P E.1 vwCl [(h0, .inr (0, [.ref q1, .ref q2])), (q1, .inl (eJ E, 22, .inr (.inl (fun _ => 0)))), (q2, .inl (eI E, 22, .inl (fun _ => 0)))] H := hP
  have hD : va_D A [(h0, .inr (0, [.ref q1, .ref q2])), (q1, .inl (eJ E, 22, .inr (.inl (fun _ => 0)))), (q2, .inl (eI E, 22, .inl (fun _ => 0)))] := hD
  exact hQ _ _ _ _ (q1, q2) _ _ (Nat.le_of_ble_eq_true rfl) (Nat.le_of_ble_eq_true rfl) trivial hP hD hS dX0_init_20

abbrev rX1_init : Room := { frames := 2, cells := 5, slots := 58, locals := 33 }
theorem mm_X1_init_1 : Cond.methodLink RX1 5 objectInit ∈ wsX1_init := List.mem_of_getElem? (i := 1) rfl
theorem mm_X1_init_2 : Cond.instanceMethod objectInit ∈ wsX1_init := List.mem_of_getElem? (i := 2) rfl
theorem mm_X1_init_3 : Cond.code objectInit ⟨#[0xb1]⟩ 1 none ∈ wsX1_init := List.mem_of_getElem? (i := 3) rfl
theorem mm_X1_init_4 : Cond.classLink RX1 1 RX2 ∈ wsX1_init := List.mem_of_getElem? (i := 4) rfl
theorem mm_X1_init_5 : Cond.instantiable RX2 1 ∈ wsX1_init := List.mem_of_getElem? (i := 5) rfl
theorem mm_X1_init_6 : Cond.initialized RX2 ∈ wsX1_init := List.mem_of_getElem? (i := 6) rfl
theorem mm_X1_init_21 : Cond.methodLink RX1 11 yX2_init ∈ wsX1_init := List.mem_of_getElem? (i := 21) rfl
theorem mm_X1_init_22 : Cond.instanceMethod yX2_init ∈ wsX1_init := List.mem_of_getElem? (i := 22) rfl
theorem mm_X1_init_7 : Cond.fieldLink RX1 12 "GaugeBounds$Battery" "curve" "LGaugeBounds$Curve;" ∈ wsX1_init := List.mem_of_getElem? (i := 7) rfl
theorem mm_X1_init_8 : Cond.classLink RX1 18 RX0 ∈ wsX1_init := List.mem_of_getElem? (i := 8) rfl
theorem mm_X1_init_9 : Cond.instantiable RX0 2 ∈ wsX1_init := List.mem_of_getElem? (i := 9) rfl
theorem mm_X1_init_10 : Cond.initialized RX0 ∈ wsX1_init := List.mem_of_getElem? (i := 10) rfl
theorem mm_X1_init_27 : Cond.methodLink RX1 20 yX0_init ∈ wsX1_init := List.mem_of_getElem? (i := 27) rfl
theorem mm_X1_init_28 : Cond.instanceMethod yX0_init ∈ wsX1_init := List.mem_of_getElem? (i := 28) rfl
theorem mm_X1_init_11 : Cond.fieldLink RX1 21 "GaugeBounds$Battery" "bands" "LGaugeBounds$Bands;" ∈ wsX1_init := List.mem_of_getElem? (i := 11) rfl
theorem mm_X1_init_12 : Cond.fieldLink RX1 25 "GaugeBounds$Battery" "high" "I" ∈ wsX1_init := List.mem_of_getElem? (i := 12) rfl
theorem mm_X1_init_13 : Cond.fieldLink RX1 29 "GaugeBounds$Battery" "leastCapacity" "I" ∈ wsX1_init := List.mem_of_getElem? (i := 13) rfl
theorem mm_X1_init_14 : Cond.fieldLink RX1 32 "GaugeBounds$Battery" "mostCapacity" "I" ∈ wsX1_init := List.mem_of_getElem? (i := 14) rfl
theorem mm_X1_init_15 : Cond.fieldLink RX1 35 "GaugeBounds$Battery" "offset" "I" ∈ wsX1_init := List.mem_of_getElem? (i := 15) rfl
theorem mm_X1_init_16 : Cond.fieldLink RX1 38 "GaugeBounds$Battery" "cling" "I" ∈ wsX1_init := List.mem_of_getElem? (i := 16) rfl
theorem mm_X1_init_17 : Cond.constant RX1 41 (-10000001) ∈ wsX1_init := List.mem_of_getElem? (i := 17) rfl
theorem mm_X1_init_18 : Cond.fieldLink RX1 42 "GaugeBounds$Battery" "lastA" "I" ∈ wsX1_init := List.mem_of_getElem? (i := 18) rfl
theorem mm_X1_init_19 : Cond.fieldLink RX1 45 "GaugeBounds$Battery" "lastB" "I" ∈ wsX1_init := List.mem_of_getElem? (i := 19) rfl
theorem mm_X1_init_20 : Cond.fieldLink RX1 48 "GaugeBounds$Battery" "shown" "I" ∈ wsX1_init := List.mem_of_getElem? (i := 20) rfl
theorem ii_X1_init_X2 : ∀ w ∈ wsX20, w ∈ wsX1_init := fun _ h => List.mem_cons_of_mem _ (List.mem_append_left _ (List.mem_append_left _ (List.mem_append_right _ (h))))
theorem ii_X1_init_X1 : ∀ w ∈ wsX10, w ∈ wsX1_init := fun _ h => List.mem_cons_of_mem _ (List.mem_append_left _ (List.mem_append_right _ (h)))
theorem ii_X1_init_X0 : ∀ w ∈ wsX00, w ∈ wsX1_init := fun _ h => List.mem_cons_of_mem _ (List.mem_append_right _ (h))
theorem qiX1_init : yX1_init.cls ≠ "java/lang/invoke/MethodHandle" ∧ yX1_init.cls ≠ "java/lang/invoke/VarHandle" ∧ (parseMethodDescriptor yX1_init.desc).map (fun d => d.parameters.length) = some 0 := by decide +kernel
set_option maxHeartbeats 4000000 in
set_option maxRecDepth 100000 in
theorem kX1_init (l : Launch) (E : gEnv) (h0 : Nat) : gMn (σ := Nat → Nat) l E yX1_init wsX1_init rX1_init [.ref h0] [(h0, .inr (1, [.null, .null, .int 0, .int 0, .int 0, .int 0, .int 0, .int 0, .int 0, .int 0, .int 0, .int 0, .int 0, .int 0, .int 0]))] (fun u => u 0 = h0) (fun u => wB E u Bat0) := by
  refine gMn_of (cc := cX1_init) (maxL := 1) (ret := none) (by decide) rfl rfl rfl (Nat.le_of_ble_eq_true rfl) ?_
  intro p e s m args below meth c A Q ls hB hAO hin hQ
  obtain ⟨hx, hb, hml, hown, hts, hK, hP, hD, hA, hS, hl⟩ := hB
  have hown : s.vm.findClass RX1 = some m.cls := hown
  have hP : va_P E.1 vwCl [(h0, .inr (1, [.null, .null, .int 0, .int 0, .int 0, .int 0, .int 0, .int 0, .int 0, .int 0, .int 0, .int 0, .int 0, .int 0, .int 0]))] s.heap := hP
  have hD : va_D A [(h0, .inr (1, [.null, .null, .int 0, .int 0, .int 0, .int 0, .int 0, .int 0, .int 0, .int 0, .int 0, .int 0, .int 0, .int 0, .int 0]))] := hD
  have hl : lv_has ls 1 [(0, .ref h0)] := hl
  refine lv_aload_n (pc := 0) hx hb dX1_init_0 rfl (lv_at hl 0 rfl) ?_
  refine W.objInit hx hb hown (hts _ mm_X1_init_1) (hts _ mm_X1_init_2) (hts _ mm_X1_init_3) rfl (hl.1.trans hml.symm) rfl dX1_init_1 (Nat.le_of_ble_eq_true rfl) (Nat.le_of_ble_eq_true rfl) ?_
  refine W.eq (g2 := F0 m 4 ls []) rfl ?_
  refine lv_aload_n (pc := 4) hx hb dX1_init_4 rfl (lv_at hl 0 rfl) ?_
  refine va_new (ci := 2) (fs := [.null]) (C := RX2) (T := TX2) (N := 1) (pc := 5) hx hb hts ii_X1_init_X2 tyX2 tyX2_ok hown (hts _ mm_X1_init_4) (hts _ mm_X1_init_5) (hts _ mm_X1_init_6) hK.1 hP hD hS hA rfl (fun j hj => by rcases (show j = 0 by omega) with rfl <;> rfl) (Nat.le_of_ble_eq_true rfl) (Nat.le_of_ble_eq_true rfl) dX1_init_5 (fun q1 H hP hD hS => ?_)
  have hP : va_P E.1 vwCl [(h0, .inr (1, [.null, .null, .int 0, .int 0, .int 0, .int 0, .int 0, .int 0, .int 0, .int 0, .int 0, .int 0, .int 0, .int 0, .int 0])), (q1, .inr (2, [.null]))] H := hP
  have hD : va_D A [(h0, .inr (1, [.null, .null, .int 0, .int 0, .int 0, .int 0, .int 0, .int 0, .int 0, .int 0, .int 0, .int 0, .int 0, .int 0, .int 0])), (q1, .inr (2, [.null]))] := hD
  refine lv_dup (pc := 8) hx hb dX1_init_8 rfl ?_
  refine gcI (pc := 9) (pre := [(h0, .inr (1, [.null, .null, .int 0, .int 0, .int 0, .int 0, .int 0, .int 0, .int 0, .int 0, .int 0, .int 0, .int 0, .int 0, .int 0]))]) (post := []) (rest := [.ref q1, .ref h0]) ⟨hx, hb, hml, hown, hts⟩ (kX2_init l E q1) (cwI 0 hts gX1_init_X2_init rfl rfl rfl (hts _ mm_X1_init_6) (hts _ mm_X1_init_21) (hts _ mm_X1_init_22) rfl qiX2_init ⟨Nat.le_of_ble_eq_true rfl, Nat.le_of_ble_eq_true rfl⟩) hK hAO hP hD hS hA rfl hl.1 rfl (Nat.le_of_ble_eq_true rfl) dX1_init_9 ⟨Nat.le_of_ble_eq_true rfl, Nat.le_of_ble_eq_true rfl⟩ (fun u2 H locs hu2 hP hD hS => ?_)
  have hP : va_P E.1 vwCl [(h0, .inr (1, [.null, .null, .int 0, .int 0, .int 0, .int 0, .int 0, .int 0, .int 0, .int 0, .int 0, .int 0, .int 0, .int 0, .int 0])), (q1, .inr (2, [.ref u2])), (u2, .inl (eI E, 11, .inl (lpC 11)))] H := hP
  have hD : va_D A [(h0, .inr (1, [.null, .null, .int 0, .int 0, .int 0, .int 0, .int 0, .int 0, .int 0, .int 0, .int 0, .int 0, .int 0, .int 0, .int 0])), (q1, .inr (2, [.ref u2])), (u2, .inl (eI E, 11, .inl (lpC 11)))] := hD
  refine va_putF (D := E.1) (ci := 1) (v := .ref q1) (ty := tyX1 0) (C := RX1) (T := TX1) (N := 15) (pc := 12) hx hb hts ii_X1_init_X1 tyX1 tyX1_ok nmX1 hown hK.1 hP hD hS 0 rfl rfl 0 (by decide) (hts _ mm_X1_init_7) (fun _ h9 => h9) rfl hin rfl (by decide +kernel) rfl rfl (Nat.le_of_ble_eq_true rfl) dX1_init_12 (fun H locs hP hD hS => ?_)
  have hP : va_P E.1 vwCl [(h0, .inr (1, [.ref q1, .null, .int 0, .int 0, .int 0, .int 0, .int 0, .int 0, .int 0, .int 0, .int 0, .int 0, .int 0, .int 0, .int 0])), (q1, .inr (2, [.ref u2])), (u2, .inl (eI E, 11, .inl (lpC 11)))] H := hP
  have hD : va_D A [(h0, .inr (1, [.ref q1, .null, .int 0, .int 0, .int 0, .int 0, .int 0, .int 0, .int 0, .int 0, .int 0, .int 0, .int 0, .int 0, .int 0])), (q1, .inr (2, [.ref u2])), (u2, .inl (eI E, 11, .inl (lpC 11)))] := hD
  refine lv_aload_n (pc := 15) hx hb dX1_init_15 rfl (lv_at hl 0 rfl) ?_
  refine va_new (ci := 0) (fs := [.null, .null]) (C := RX0) (T := TX0) (N := 2) (pc := 16) hx hb hts ii_X1_init_X0 tyX0 tyX0_ok hown (hts _ mm_X1_init_8) (hts _ mm_X1_init_9) (hts _ mm_X1_init_10) hK.1 hP hD hS hA rfl (fun j hj => by rcases (show j = 0 ∨ j = 1 by omega) with rfl | rfl <;> rfl) (Nat.le_of_ble_eq_true rfl) (Nat.le_of_ble_eq_true rfl) dX1_init_16 (fun q3 H hP hD hS => ?_)
  have hP : va_P E.1 vwCl [(h0, .inr (1, [.ref q1, .null, .int 0, .int 0, .int 0, .int 0, .int 0, .int 0, .int 0, .int 0, .int 0, .int 0, .int 0, .int 0, .int 0])), (q1, .inr (2, [.ref u2])), (u2, .inl (eI E, 11, .inl (lpC 11))), (q3, .inr (0, [.null, .null]))] H := hP
  have hD : va_D A [(h0, .inr (1, [.ref q1, .null, .int 0, .int 0, .int 0, .int 0, .int 0, .int 0, .int 0, .int 0, .int 0, .int 0, .int 0, .int 0, .int 0])), (q1, .inr (2, [.ref u2])), (u2, .inl (eI E, 11, .inl (lpC 11))), (q3, .inr (0, [.null, .null]))] := hD
  refine lv_dup (pc := 19) hx hb dX1_init_19 rfl ?_
  refine gcI (pc := 20) (pre := [(h0, .inr (1, [.ref q1, .null, .int 0, .int 0, .int 0, .int 0, .int 0, .int 0, .int 0, .int 0, .int 0, .int 0, .int 0, .int 0, .int 0])), (q1, .inr (2, [.ref u2])), (u2, .inl (eI E, 11, .inl (lpC 11)))]) (post := []) (rest := [.ref q3, .ref h0]) ⟨hx, hb, hml, hown, hts⟩ (kX0_init l E q3) (cwI 0 hts gX1_init_X0_init rfl rfl rfl (hts _ mm_X1_init_10) (hts _ mm_X1_init_27) (hts _ mm_X1_init_28) rfl qiX0_init ⟨Nat.le_of_ble_eq_true rfl, Nat.le_of_ble_eq_true rfl⟩) hK hAO hP hD hS hA rfl hl.1 rfl (Nat.le_of_ble_eq_true rfl) dX1_init_20 ⟨Nat.le_of_ble_eq_true rfl, Nat.le_of_ble_eq_true rfl⟩ (fun u4 H locs hu4 hP hD hS => ?_)
  have hP : va_P E.1 vwCl [(h0, .inr (1, [.ref q1, .null, .int 0, .int 0, .int 0, .int 0, .int 0, .int 0, .int 0, .int 0, .int 0, .int 0, .int 0, .int 0, .int 0])), (q1, .inr (2, [.ref u2])), (u2, .inl (eI E, 11, .inl (lpC 11))), (q3, .inr (0, [.ref u4.1, .ref u4.2])), (u4.1, .inl (eJ E, 22, .inr (.inl (fun _ => 0)))), (u4.2, .inl (eI E, 22, .inl (fun _ => 0)))] H := hP
  have hD : va_D A [(h0, .inr (1, [.ref q1, .null, .int 0, .int 0, .int 0, .int 0, .int 0, .int 0, .int 0, .int 0, .int 0, .int 0, .int 0, .int 0, .int 0])), (q1, .inr (2, [.ref u2])), (u2, .inl (eI E, 11, .inl (lpC 11))), (q3, .inr (0, [.ref u4.1, .ref u4.2])), (u4.1, .inl (eJ E, 22, .inr (.inl (fun _ => 0)))), (u4.2, .inl (eI E, 22, .inl (fun _ => 0)))] := hD
  refine va_putF (D := E.1) (ci := 1) (v := .ref q3) (ty := tyX1 1) (C := RX1) (T := TX1) (N := 15) (pc := 23) hx hb hts ii_X1_init_X1 tyX1 tyX1_ok nmX1 hown hK.1 hP hD hS 0 rfl rfl 1 (by decide) (hts _ mm_X1_init_11) (fun _ h9 => h9) rfl hin rfl (by decide +kernel) rfl rfl (Nat.le_of_ble_eq_true rfl) dX1_init_23 (fun H locs hP hD hS => ?_)
  have hP : va_P E.1 vwCl [(h0, .inr (1, [.ref q1, .ref q3, .int 0, .int 0, .int 0, .int 0, .int 0, .int 0, .int 0, .int 0, .int 0, .int 0, .int 0, .int 0, .int 0])), (q1, .inr (2, [.ref u2])), (u2, .inl (eI E, 11, .inl (lpC 11))), (q3, .inr (0, [.ref u4.1, .ref u4.2])), (u4.1, .inl (eJ E, 22, .inr (.inl (fun _ => 0)))), (u4.2, .inl (eI E, 22, .inl (fun _ => 0)))] H := hP
  have hD : va_D A [(h0, .inr (1, [.ref q1, .ref q3, .int 0, .int 0, .int 0, .int 0, .int 0, .int 0, .int 0, .int 0, .int 0, .int 0, .int 0, .int 0, .int 0])), (q1, .inr (2, [.ref u2])), (u2, .inl (eI E, 11, .inl (lpC 11))), (q3, .inr (0, [.ref u4.1, .ref u4.2])), (u4.1, .inl (eJ E, 22, .inr (.inl (fun _ => 0)))), (u4.2, .inl (eI E, 22, .inl (fun _ => 0)))] := hD
  refine lv_aload_n (pc := 26) hx hb dX1_init_26 rfl (lv_at hl 0 rfl) ?_
  refine lv_sipush (v := 1000) (pc := 27) hx hb dX1_init_27 rfl ?_
  refine g_put (w1 := [(h0, .inr (1, [.ref q1, .ref q3, .int 0, .int 1000, .int 0, .int 0, .int 0, .int 0, .int 0, .int 0, .int 0, .int 0, .int 0, .int 0, .int 0])), (q1, .inr (2, [.ref u2])), (u2, .inl (eI E, 11, .inl (lpC 11))), (q3, .inr (0, [.ref u4.1, .ref u4.2])), (u4.1, .inl (eJ E, 22, .inr (.inl (fun _ => 0)))), (u4.2, .inl (eI E, 22, .inl (fun _ => 0)))]) (pc := 30) hx hb hts ii_X1_init_X1 tyX1 tyX1_ok nmX1 hown hK.1 hP hD hS 0 rfl rfl 3 (by decide) ⟨rfl, rfl, rfl⟩ mm_X1_init_12 rfl rfl rfl rfl (Nat.le_of_ble_eq_true rfl) rfl dX1_init_30 (fun H locs hP hD hS => ?_)
  refine lv_aload_n (pc := 33) hx hb dX1_init_33 rfl (lv_at hl 0 rfl) ?_
  refine lv_sipush (v := 500) (pc := 34) hx hb dX1_init_34 rfl ?_
  refine g_put (w1 := [(h0, .inr (1, [.ref q1, .ref q3, .int 0, .int 1000, .int 500, .int 0, .int 0, .int 0, .int 0, .int 0, .int 0, .int 0, .int 0, .int 0, .int 0])), (q1, .inr (2, [.ref u2])), (u2, .inl (eI E, 11, .inl (lpC 11))), (q3, .inr (0, [.ref u4.1, .ref u4.2])), (u4.1, .inl (eJ E, 22, .inr (.inl (fun _ => 0)))), (u4.2, .inl (eI E, 22, .inl (fun _ => 0)))]) (pc := 37) hx hb hts ii_X1_init_X1 tyX1 tyX1_ok nmX1 hown hK.1 hP hD hS 0 rfl rfl 4 (by decide) ⟨rfl, rfl, rfl⟩ mm_X1_init_13 rfl rfl rfl rfl (Nat.le_of_ble_eq_true rfl) rfl dX1_init_37 (fun H locs hP hD hS => ?_)
  refine lv_aload_n (pc := 40) hx hb dX1_init_40 rfl (lv_at hl 0 rfl) ?_
  refine lv_sipush (v := 1000) (pc := 41) hx hb dX1_init_41 rfl ?_
  refine g_put (w1 := [(h0, .inr (1, [.ref q1, .ref q3, .int 0, .int 1000, .int 500, .int 1000, .int 0, .int 0, .int 0, .int 0, .int 0, .int 0, .int 0, .int 0, .int 0])), (q1, .inr (2, [.ref u2])), (u2, .inl (eI E, 11, .inl (lpC 11))), (q3, .inr (0, [.ref u4.1, .ref u4.2])), (u4.1, .inl (eJ E, 22, .inr (.inl (fun _ => 0)))), (u4.2, .inl (eI E, 22, .inl (fun _ => 0)))]) (pc := 44) hx hb hts ii_X1_init_X1 tyX1 tyX1_ok nmX1 hown hK.1 hP hD hS 0 rfl rfl 5 (by decide) ⟨rfl, rfl, rfl⟩ mm_X1_init_14 rfl rfl rfl rfl (Nat.le_of_ble_eq_true rfl) rfl dX1_init_44 (fun H locs hP hD hS => ?_)
  refine lv_aload_n (pc := 47) hx hb dX1_init_47 rfl (lv_at hl 0 rfl) ?_
  refine lv_iconst (v := 1) (pc := 48) hx hb dX1_init_48 rfl ?_
  refine g_put (w1 := [(h0, .inr (1, [.ref q1, .ref q3, .int 0, .int 1000, .int 500, .int 1000, .int 1, .int 0, .int 0, .int 0, .int 0, .int 0, .int 0, .int 0, .int 0])), (q1, .inr (2, [.ref u2])), (u2, .inl (eI E, 11, .inl (lpC 11))), (q3, .inr (0, [.ref u4.1, .ref u4.2])), (u4.1, .inl (eJ E, 22, .inr (.inl (fun _ => 0)))), (u4.2, .inl (eI E, 22, .inl (fun _ => 0)))]) (pc := 49) hx hb hts ii_X1_init_X1 tyX1 tyX1_ok nmX1 hown hK.1 hP hD hS 0 rfl rfl 6 (by decide) ⟨rfl, rfl, rfl⟩ mm_X1_init_15 rfl rfl rfl rfl (Nat.le_of_ble_eq_true rfl) rfl dX1_init_49 (fun H locs hP hD hS => ?_)
  refine lv_aload_n (pc := 52) hx hb dX1_init_52 rfl (lv_at hl 0 rfl) ?_
  refine lv_bipush (v := 10) (pc := 53) hx hb dX1_init_53 rfl ?_
  refine g_put (w1 := [(h0, .inr (1, [.ref q1, .ref q3, .int 0, .int 1000, .int 500, .int 1000, .int 1, .int 10, .int 0, .int 0, .int 0, .int 0, .int 0, .int 0, .int 0])), (q1, .inr (2, [.ref u2])), (u2, .inl (eI E, 11, .inl (lpC 11))), (q3, .inr (0, [.ref u4.1, .ref u4.2])), (u4.1, .inl (eJ E, 22, .inr (.inl (fun _ => 0)))), (u4.2, .inl (eI E, 22, .inl (fun _ => 0)))]) (pc := 55) hx hb hts ii_X1_init_X1 tyX1 tyX1_ok nmX1 hown hK.1 hP hD hS 0 rfl rfl 7 (by decide) ⟨rfl, rfl, rfl⟩ mm_X1_init_16 rfl rfl rfl rfl (Nat.le_of_ble_eq_true rfl) rfl dX1_init_55 (fun H locs hP hD hS => ?_)
  refine lv_aload_n (pc := 58) hx hb dX1_init_58 rfl (lv_at hl 0 rfl) ?_
  refine lv_ldc (v := (-10000001)) (pc := 59) hx hb hown (hts _ mm_X1_init_17) dX1_init_59 ?_
  refine g_put (w1 := [(h0, .inr (1, [.ref q1, .ref q3, .int 0, .int 1000, .int 500, .int 1000, .int 1, .int 10, .int 0, .int 0, .int 0, .int (-10000001), .int 0, .int 0, .int 0])), (q1, .inr (2, [.ref u2])), (u2, .inl (eI E, 11, .inl (lpC 11))), (q3, .inr (0, [.ref u4.1, .ref u4.2])), (u4.1, .inl (eJ E, 22, .inr (.inl (fun _ => 0)))), (u4.2, .inl (eI E, 22, .inl (fun _ => 0)))]) (pc := 61) hx hb hts ii_X1_init_X1 tyX1 tyX1_ok nmX1 hown hK.1 hP hD hS 0 rfl rfl 11 (by decide) ⟨rfl, rfl, rfl⟩ mm_X1_init_18 rfl rfl rfl rfl (Nat.le_of_ble_eq_true rfl) rfl dX1_init_61 (fun H locs hP hD hS => ?_)
  refine lv_aload_n (pc := 64) hx hb dX1_init_64 rfl (lv_at hl 0 rfl) ?_
  refine lv_ldc (v := (-10000001)) (pc := 65) hx hb hown (hts _ mm_X1_init_17) dX1_init_65 ?_
  refine g_put (w1 := [(h0, .inr (1, [.ref q1, .ref q3, .int 0, .int 1000, .int 500, .int 1000, .int 1, .int 10, .int 0, .int 0, .int 0, .int (-10000001), .int (-10000001), .int 0, .int 0])), (q1, .inr (2, [.ref u2])), (u2, .inl (eI E, 11, .inl (lpC 11))), (q3, .inr (0, [.ref u4.1, .ref u4.2])), (u4.1, .inl (eJ E, 22, .inr (.inl (fun _ => 0)))), (u4.2, .inl (eI E, 22, .inl (fun _ => 0)))]) (pc := 67) hx hb hts ii_X1_init_X1 tyX1 tyX1_ok nmX1 hown hK.1 hP hD hS 0 rfl rfl 12 (by decide) ⟨rfl, rfl, rfl⟩ mm_X1_init_19 rfl rfl rfl rfl (Nat.le_of_ble_eq_true rfl) rfl dX1_init_67 (fun H locs hP hD hS => ?_)
  refine lv_aload_n (pc := 70) hx hb dX1_init_70 rfl (lv_at hl 0 rfl) ?_
  refine lv_bipush (v := 100) (pc := 71) hx hb dX1_init_71 rfl ?_
  refine g_put (w1 := [(h0, .inr (1, [.ref q1, .ref q3, .int 0, .int 1000, .int 500, .int 1000, .int 1, .int 10, .int 0, .int 0, .int 0, .int (-10000001), .int (-10000001), .int 0, .int 100])), (q1, .inr (2, [.ref u2])), (u2, .inl (eI E, 11, .inl (lpC 11))), (q3, .inr (0, [.ref u4.1, .ref u4.2])), (u4.1, .inl (eJ E, 22, .inr (.inl (fun _ => 0)))), (u4.2, .inl (eI E, 22, .inl (fun _ => 0)))]) (pc := 73) hx hb hts ii_X1_init_X1 tyX1 tyX1_ok nmX1 hown hK.1 hP hD hS 0 rfl rfl 14 (by decide) ⟨rfl, rfl, rfl⟩ mm_X1_init_20 rfl rfl rfl rfl (Nat.le_of_ble_eq_true rfl) rfl dX1_init_73 (fun H locs hP hD hS => ?_)
  exact hQ _ _ _ _ (fun k => if k = 0 then h0 else if k = 1 then q1 else if k = 2 then u2 else if k = 3 then q3 else if k = 4 then u4.1 else u4.2) _ _ (Nat.le_of_ble_eq_true rfl) (Nat.le_of_ble_eq_true rfl) rfl hP hD hS dX1_init_76

abbrev rX4_init : Room := { frames := 1, cells := 4, slots := 240, locals := 12 }
theorem mm_X4_init_1 : Cond.methodLink RX4 5 objectInit ∈ wsX4_init := List.mem_of_getElem? (i := 1) rfl
theorem mm_X4_init_2 : Cond.instanceMethod objectInit ∈ wsX4_init := List.mem_of_getElem? (i := 2) rfl
theorem mm_X4_init_3 : Cond.code objectInit ⟨#[0xb1]⟩ 1 none ∈ wsX4_init := List.mem_of_getElem? (i := 3) rfl
theorem mm_X4_init_4 : Cond.arrayClass .byte ∈ wsX4_init := List.mem_of_getElem? (i := 4) rfl
theorem mm_X4_init_5 : Cond.fieldLink RX4 11 "GaugeBounds$Text" "bytes" "[B" ∈ wsX4_init := List.mem_of_getElem? (i := 5) rfl
theorem mm_X4_init_6 : Cond.arrayClass .int ∈ wsX4_init := List.mem_of_getElem? (i := 6) rfl
theorem mm_X4_init_7 : Cond.fieldLink RX4 15 "GaugeBounds$Text" "kinds" "[I" ∈ wsX4_init := List.mem_of_getElem? (i := 7) rfl
theorem mm_X4_init_8 : Cond.fieldLink RX4 19 "GaugeBounds$Text" "firsts" "[I" ∈ wsX4_init := List.mem_of_getElem? (i := 8) rfl
theorem mm_X4_init_9 : Cond.fieldLink RX4 22 "GaugeBounds$Text" "seconds" "[I" ∈ wsX4_init := List.mem_of_getElem? (i := 9) rfl
theorem ii_X4_init_X4 : ∀ w ∈ wsX40, w ∈ wsX4_init := fun _ h => List.mem_cons_of_mem _ (List.mem_append_right _ (h))
theorem qiX4_init : yX4_init.cls ≠ "java/lang/invoke/MethodHandle" ∧ yX4_init.cls ≠ "java/lang/invoke/VarHandle" ∧ (parseMethodDescriptor yX4_init.desc).map (fun d => d.parameters.length) = some 0 := by decide +kernel
set_option maxHeartbeats 4000000 in
set_option maxRecDepth 100000 in
theorem kX4_init (l : Launch) (E : gEnv) (h0 : Nat) : gMn (σ := Nat → Nat) l E yX4_init wsX4_init rX4_init [.ref h0] [(h0, .inr (4, [.null, .int 0, .null, .null, .null, .int 0, .int 0, .int 0]))] (fun u => u 0 = h0) (fun u => wT E u Txt0) := by
  refine gMn_of (cc := cX4_init) (maxL := 1) (ret := none) (by decide) rfl rfl rfl (Nat.le_of_ble_eq_true rfl) ?_
  intro p e s m args below meth c A Q ls hB hAO hin hQ
  obtain ⟨hx, hb, hml, hown, hts, hK, hP, hD, hA, hS, hl⟩ := hB
  have hown : s.vm.findClass RX4 = some m.cls := hown
  have hP : va_P E.1 vwCl [(h0, .inr (4, [.null, .int 0, .null, .null, .null, .int 0, .int 0, .int 0]))] s.heap := hP
  have hD : va_D A [(h0, .inr (4, [.null, .int 0, .null, .null, .null, .int 0, .int 0, .int 0]))] := hD
  have hl : lv_has ls 1 [(0, .ref h0)] := hl
  refine lv_aload_n (pc := 0) hx hb dX4_init_0 rfl (lv_at hl 0 rfl) ?_
  refine W.objInit hx hb hown (hts _ mm_X4_init_1) (hts _ mm_X4_init_2) (hts _ mm_X4_init_3) rfl (hl.1.trans hml.symm) rfl dX4_init_1 (Nat.le_of_ble_eq_true rfl) (Nat.le_of_ble_eq_true rfl) ?_
  refine W.eq (g2 := F0 m 4 ls []) rfl ?_
  refine lv_aload_n (pc := 4) hx hb dX4_init_4 rfl (lv_at hl 0 rfl) ?_
  refine lv_bipush (v := 120) (pc := 5) hx hb dX4_init_5 rfl ?_
  refine g_newb (N' := 120) (pc := 7) hx hb (hts _ mm_X4_init_4) hK hP hD hS hA (by decide) (by decide) (by decide) (Nat.le_of_ble_eq_true rfl) (Nat.le_of_ble_eq_true rfl) dX4_init_7 (fun q1 H hP hD hS => ?_)
  have hP : va_P E.1 vwCl [(h0, .inr (4, [.null, .int 0, .null, .null, .null, .int 0, .int 0, .int 0])), (q1, .inl (eB E, 120, .inl (fun _ => 0)))] H := hP
  have hD : va_D A [(h0, .inr (4, [.null, .int 0, .null, .null, .null, .int 0, .int 0, .int 0])), (q1, .inl (eB E, 120, .inl (fun _ => 0)))] := hD
  refine va_putF (D := E.1) (ci := 4) (v := .ref q1) (ty := tyX4 0) (C := RX4) (T := TX4) (N := 8) (pc := 9) hx hb hts ii_X4_init_X4 tyX4 tyX4_ok nmX4 hown hK.1 hP hD hS 0 rfl rfl 0 (by decide) (hts _ mm_X4_init_5) (fun _ h9 => h9) rfl hin rfl (by decide +kernel) rfl rfl (Nat.le_of_ble_eq_true rfl) dX4_init_9 (fun H locs hP hD hS => ?_)
  have hP : va_P E.1 vwCl [(h0, .inr (4, [.ref q1, .int 0, .null, .null, .null, .int 0, .int 0, .int 0])), (q1, .inl (eB E, 120, .inl (fun _ => 0)))] H := hP
  have hD : va_D A [(h0, .inr (4, [.ref q1, .int 0, .null, .null, .null, .int 0, .int 0, .int 0])), (q1, .inl (eB E, 120, .inl (fun _ => 0)))] := hD
  refine lv_aload_n (pc := 12) hx hb dX4_init_12 rfl (lv_at hl 0 rfl) ?_
  refine lv_bipush (v := 40) (pc := 13) hx hb dX4_init_13 rfl ?_
  refine g_newi (N' := 40) (pc := 15) hx hb (hts _ mm_X4_init_6) hK hP hD hS hA (by decide) (by decide) (by decide) (Nat.le_of_ble_eq_true rfl) (Nat.le_of_ble_eq_true rfl) dX4_init_15 (fun q2 H hP hD hS => ?_)
  have hP : va_P E.1 vwCl [(h0, .inr (4, [.ref q1, .int 0, .null, .null, .null, .int 0, .int 0, .int 0])), (q1, .inl (eB E, 120, .inl (fun _ => 0))), (q2, .inl (eI E, 40, .inl (fun _ => 0)))] H := hP
  have hD : va_D A [(h0, .inr (4, [.ref q1, .int 0, .null, .null, .null, .int 0, .int 0, .int 0])), (q1, .inl (eB E, 120, .inl (fun _ => 0))), (q2, .inl (eI E, 40, .inl (fun _ => 0)))] := hD
  refine va_putF (D := E.1) (ci := 4) (v := .ref q2) (ty := tyX4 2) (C := RX4) (T := TX4) (N := 8) (pc := 17) hx hb hts ii_X4_init_X4 tyX4 tyX4_ok nmX4 hown hK.1 hP hD hS 0 rfl rfl 2 (by decide) (hts _ mm_X4_init_7) (fun _ h9 => h9) rfl hin rfl (by decide +kernel) rfl rfl (Nat.le_of_ble_eq_true rfl) dX4_init_17 (fun H locs hP hD hS => ?_)
  have hP : va_P E.1 vwCl [(h0, .inr (4, [.ref q1, .int 0, .ref q2, .null, .null, .int 0, .int 0, .int 0])), (q1, .inl (eB E, 120, .inl (fun _ => 0))), (q2, .inl (eI E, 40, .inl (fun _ => 0)))] H := hP
  have hD : va_D A [(h0, .inr (4, [.ref q1, .int 0, .ref q2, .null, .null, .int 0, .int 0, .int 0])), (q1, .inl (eB E, 120, .inl (fun _ => 0))), (q2, .inl (eI E, 40, .inl (fun _ => 0)))] := hD
  refine lv_aload_n (pc := 20) hx hb dX4_init_20 rfl (lv_at hl 0 rfl) ?_
  refine lv_bipush (v := 40) (pc := 21) hx hb dX4_init_21 rfl ?_
  refine g_newi (N' := 40) (pc := 23) hx hb (hts _ mm_X4_init_6) hK hP hD hS hA (by decide) (by decide) (by decide) (Nat.le_of_ble_eq_true rfl) (Nat.le_of_ble_eq_true rfl) dX4_init_23 (fun q3 H hP hD hS => ?_)
  have hP : va_P E.1 vwCl [(h0, .inr (4, [.ref q1, .int 0, .ref q2, .null, .null, .int 0, .int 0, .int 0])), (q1, .inl (eB E, 120, .inl (fun _ => 0))), (q2, .inl (eI E, 40, .inl (fun _ => 0))), (q3, .inl (eI E, 40, .inl (fun _ => 0)))] H := hP
  have hD : va_D A [(h0, .inr (4, [.ref q1, .int 0, .ref q2, .null, .null, .int 0, .int 0, .int 0])), (q1, .inl (eB E, 120, .inl (fun _ => 0))), (q2, .inl (eI E, 40, .inl (fun _ => 0))), (q3, .inl (eI E, 40, .inl (fun _ => 0)))] := hD
  refine va_putF (D := E.1) (ci := 4) (v := .ref q3) (ty := tyX4 3) (C := RX4) (T := TX4) (N := 8) (pc := 25) hx hb hts ii_X4_init_X4 tyX4 tyX4_ok nmX4 hown hK.1 hP hD hS 0 rfl rfl 3 (by decide) (hts _ mm_X4_init_8) (fun _ h9 => h9) rfl hin rfl (by decide +kernel) rfl rfl (Nat.le_of_ble_eq_true rfl) dX4_init_25 (fun H locs hP hD hS => ?_)
  have hP : va_P E.1 vwCl [(h0, .inr (4, [.ref q1, .int 0, .ref q2, .ref q3, .null, .int 0, .int 0, .int 0])), (q1, .inl (eB E, 120, .inl (fun _ => 0))), (q2, .inl (eI E, 40, .inl (fun _ => 0))), (q3, .inl (eI E, 40, .inl (fun _ => 0)))] H := hP
  have hD : va_D A [(h0, .inr (4, [.ref q1, .int 0, .ref q2, .ref q3, .null, .int 0, .int 0, .int 0])), (q1, .inl (eB E, 120, .inl (fun _ => 0))), (q2, .inl (eI E, 40, .inl (fun _ => 0))), (q3, .inl (eI E, 40, .inl (fun _ => 0)))] := hD
  refine lv_aload_n (pc := 28) hx hb dX4_init_28 rfl (lv_at hl 0 rfl) ?_
  refine lv_bipush (v := 40) (pc := 29) hx hb dX4_init_29 rfl ?_
  refine g_newi (N' := 40) (pc := 31) hx hb (hts _ mm_X4_init_6) hK hP hD hS hA (by decide) (by decide) (by decide) (Nat.le_of_ble_eq_true rfl) (Nat.le_of_ble_eq_true rfl) dX4_init_31 (fun q4 H hP hD hS => ?_)
  have hP : va_P E.1 vwCl [(h0, .inr (4, [.ref q1, .int 0, .ref q2, .ref q3, .null, .int 0, .int 0, .int 0])), (q1, .inl (eB E, 120, .inl (fun _ => 0))), (q2, .inl (eI E, 40, .inl (fun _ => 0))), (q3, .inl (eI E, 40, .inl (fun _ => 0))), (q4, .inl (eI E, 40, .inl (fun _ => 0)))] H := hP
  have hD : va_D A [(h0, .inr (4, [.ref q1, .int 0, .ref q2, .ref q3, .null, .int 0, .int 0, .int 0])), (q1, .inl (eB E, 120, .inl (fun _ => 0))), (q2, .inl (eI E, 40, .inl (fun _ => 0))), (q3, .inl (eI E, 40, .inl (fun _ => 0))), (q4, .inl (eI E, 40, .inl (fun _ => 0)))] := hD
  refine va_putF (D := E.1) (ci := 4) (v := .ref q4) (ty := tyX4 4) (C := RX4) (T := TX4) (N := 8) (pc := 33) hx hb hts ii_X4_init_X4 tyX4 tyX4_ok nmX4 hown hK.1 hP hD hS 0 rfl rfl 4 (by decide) (hts _ mm_X4_init_9) (fun _ h9 => h9) rfl hin rfl (by decide +kernel) rfl rfl (Nat.le_of_ble_eq_true rfl) dX4_init_33 (fun H locs hP hD hS => ?_)
  have hP : va_P E.1 vwCl [(h0, .inr (4, [.ref q1, .int 0, .ref q2, .ref q3, .ref q4, .int 0, .int 0, .int 0])), (q1, .inl (eB E, 120, .inl (fun _ => 0))), (q2, .inl (eI E, 40, .inl (fun _ => 0))), (q3, .inl (eI E, 40, .inl (fun _ => 0))), (q4, .inl (eI E, 40, .inl (fun _ => 0)))] H := hP
  have hD : va_D A [(h0, .inr (4, [.ref q1, .int 0, .ref q2, .ref q3, .ref q4, .int 0, .int 0, .int 0])), (q1, .inl (eB E, 120, .inl (fun _ => 0))), (q2, .inl (eI E, 40, .inl (fun _ => 0))), (q3, .inl (eI E, 40, .inl (fun _ => 0))), (q4, .inl (eI E, 40, .inl (fun _ => 0)))] := hD
  exact hQ _ _ _ _ (fun k => if k = 0 then h0 else if k = 1 then q1 else if k = 2 then q2 else if k = 3 then q3 else q4) _ _ (Nat.le_of_ble_eq_true rfl) (Nat.le_of_ble_eq_true rfl) rfl hP hD hS dX4_init_36

abbrev rX6_init : Room := { frames := 1, cells := 7, slots := 779, locals := 12 }
theorem mm_X6_init_1 : Cond.methodLink RX6 1 objectInit ∈ wsX6_init := List.mem_of_getElem? (i := 1) rfl
theorem mm_X6_init_2 : Cond.instanceMethod objectInit ∈ wsX6_init := List.mem_of_getElem? (i := 2) rfl
theorem mm_X6_init_3 : Cond.code objectInit ⟨#[0xb1]⟩ 1 none ∈ wsX6_init := List.mem_of_getElem? (i := 3) rfl
theorem mm_X6_init_4 : Cond.arrayClass .long ∈ wsX6_init := List.mem_of_getElem? (i := 4) rfl
theorem mm_X6_init_5 : Cond.fieldLink RX6 7 "GaugeBoundsModel" "now" "[J" ∈ wsX6_init := List.mem_of_getElem? (i := 5) rfl
theorem mm_X6_init_6 : Cond.fieldLink RX6 13 "GaugeBoundsModel" "aside" "[J" ∈ wsX6_init := List.mem_of_getElem? (i := 6) rfl
theorem mm_X6_init_7 : Cond.fieldLink RX6 16 "GaugeBoundsModel" "past" "[J" ∈ wsX6_init := List.mem_of_getElem? (i := 7) rfl
theorem mm_X6_init_8 : Cond.arrayClass .int ∈ wsX6_init := List.mem_of_getElem? (i := 8) rfl
theorem mm_X6_init_9 : Cond.fieldLink RX6 19 "GaugeBoundsModel" "refusals" "[I" ∈ wsX6_init := List.mem_of_getElem? (i := 9) rfl
theorem mm_X6_init_10 : Cond.fieldLink RX6 23 "GaugeBoundsModel" "text" "[I" ∈ wsX6_init := List.mem_of_getElem? (i := 10) rfl
theorem mm_X6_init_11 : Cond.fieldLink RX6 26 "GaugeBoundsModel" "letters" "[I" ∈ wsX6_init := List.mem_of_getElem? (i := 11) rfl
theorem mm_X6_init_12 : Cond.fieldLink RX6 29 "GaugeBoundsModel" "numbers" "[I" ∈ wsX6_init := List.mem_of_getElem? (i := 12) rfl
theorem mm_X6_init_13 : Cond.constantLong RX6 32 (1000) ∈ wsX6_init := List.mem_of_getElem? (i := 13) rfl
theorem mm_X6_init_14 : Cond.constantLong RX6 34 (500) ∈ wsX6_init := List.mem_of_getElem? (i := 14) rfl
theorem mm_X6_init_15 : Cond.constantLong RX6 36 (100) ∈ wsX6_init := List.mem_of_getElem? (i := 15) rfl
theorem mm_X6_init_16 : Cond.constantLong RX6 38 (-10000001) ∈ wsX6_init := List.mem_of_getElem? (i := 16) rfl
theorem mm_X6_init_17 : Cond.constantLong RX6 40 (10) ∈ wsX6_init := List.mem_of_getElem? (i := 17) rfl
theorem mm_X6_init_18 : Cond.constantLong RX6 42 (3000) ∈ wsX6_init := List.mem_of_getElem? (i := 18) rfl
theorem ii_X6_init_X6 : ∀ w ∈ wsX60, w ∈ wsX6_init := fun _ h => List.mem_cons_of_mem _ (List.mem_append_right _ (h))
theorem qiX6_init : yX6_init.cls ≠ "java/lang/invoke/MethodHandle" ∧ yX6_init.cls ≠ "java/lang/invoke/VarHandle" ∧ (parseMethodDescriptor yX6_init.desc).map (fun d => d.parameters.length) = some 0 := by decide +kernel
set_option maxHeartbeats 4000000 in
set_option maxRecDepth 100000 in
theorem kX6_init (l : Launch) (E : gEnv) (h0 : Nat) : gMn (σ := Nat → Nat) l E yX6_init wsX6_init rX6_init [.ref h0] [(h0, .inr (6, [.null, .null, .null, .int 0, .null, .null, .int 0, .int 0, .int 0, .null, .null, .int 0, .int 0, .int 0, .long 0]))] (fun u => u 0 = h0) (fun u => wM E u Mdl0) := by
  refine gMn_of (cc := cX6_init) (maxL := 2) (ret := none) (by decide) rfl rfl rfl (Nat.le_of_ble_eq_true rfl) ?_
  intro p e s m args below meth c A Q ls hB hAO hin hQ
  obtain ⟨hx, hb, hml, hown, hts, hK, hP, hD, hA, hS, hl⟩ := hB
  have hown : s.vm.findClass RX6 = some m.cls := hown
  have hP : va_P E.1 vwCl [(h0, .inr (6, [.null, .null, .null, .int 0, .null, .null, .int 0, .int 0, .int 0, .null, .null, .int 0, .int 0, .int 0, .long 0]))] s.heap := hP
  have hD : va_D A [(h0, .inr (6, [.null, .null, .null, .int 0, .null, .null, .int 0, .int 0, .int 0, .null, .null, .int 0, .int 0, .int 0, .long 0]))] := hD
  have hl : lv_has ls 2 [(0, .ref h0)] := hl
  refine lv_aload_n (pc := 0) hx hb dX6_init_0 rfl (lv_at hl 0 rfl) ?_
  refine W.objInit hx hb hown (hts _ mm_X6_init_1) (hts _ mm_X6_init_2) (hts _ mm_X6_init_3) rfl (hl.1.trans hml.symm) rfl dX6_init_1 (Nat.le_of_ble_eq_true rfl) (Nat.le_of_ble_eq_true rfl) ?_
  refine W.eq (g2 := F0 m 4 ls []) rfl ?_
  refine lv_aload_n (pc := 4) hx hb dX6_init_4 rfl (lv_at hl 0 rfl) ?_
  refine lv_bipush (v := 68) (pc := 5) hx hb dX6_init_5 rfl ?_
  refine g_newl (N' := 68) (pc := 7) hx hb (hts _ mm_X6_init_4) hK hP hD hS hA (by decide) (by decide) (by decide) (Nat.le_of_ble_eq_true rfl) (Nat.le_of_ble_eq_true rfl) dX6_init_7 (fun q1 H hP hD hS => ?_)
  have hP : va_P E.1 vwCl [(h0, .inr (6, [.null, .null, .null, .int 0, .null, .null, .int 0, .int 0, .int 0, .null, .null, .int 0, .int 0, .int 0, .long 0])), (q1, .inl (eJ E, 68, .inr (.inl (fun _ => 0))))] H := hP
  have hD : va_D A [(h0, .inr (6, [.null, .null, .null, .int 0, .null, .null, .int 0, .int 0, .int 0, .null, .null, .int 0, .int 0, .int 0, .long 0])), (q1, .inl (eJ E, 68, .inr (.inl (fun _ => 0))))] := hD
  refine va_putF (D := E.1) (ci := 6) (v := .ref q1) (ty := tyX6 0) (C := RX6) (T := TX6) (N := 15) (pc := 9) hx hb hts ii_X6_init_X6 tyX6 tyX6_ok nmX6 hown hK.1 hP hD hS 0 rfl rfl 0 (by decide) (hts _ mm_X6_init_5) (fun _ h9 => h9) rfl hin rfl (by decide +kernel) rfl rfl (Nat.le_of_ble_eq_true rfl) dX6_init_9 (fun H locs hP hD hS => ?_)
  have hP : va_P E.1 vwCl [(h0, .inr (6, [.ref q1, .null, .null, .int 0, .null, .null, .int 0, .int 0, .int 0, .null, .null, .int 0, .int 0, .int 0, .long 0])), (q1, .inl (eJ E, 68, .inr (.inl (fun _ => 0))))] H := hP
  have hD : va_D A [(h0, .inr (6, [.ref q1, .null, .null, .int 0, .null, .null, .int 0, .int 0, .int 0, .null, .null, .int 0, .int 0, .int 0, .long 0])), (q1, .inl (eJ E, 68, .inr (.inl (fun _ => 0))))] := hD
  refine lv_aload_n (pc := 12) hx hb dX6_init_12 rfl (lv_at hl 0 rfl) ?_
  refine lv_bipush (v := 68) (pc := 13) hx hb dX6_init_13 rfl ?_
  refine g_newl (N' := 68) (pc := 15) hx hb (hts _ mm_X6_init_4) hK hP hD hS hA (by decide) (by decide) (by decide) (Nat.le_of_ble_eq_true rfl) (Nat.le_of_ble_eq_true rfl) dX6_init_15 (fun q2 H hP hD hS => ?_)
  have hP : va_P E.1 vwCl [(h0, .inr (6, [.ref q1, .null, .null, .int 0, .null, .null, .int 0, .int 0, .int 0, .null, .null, .int 0, .int 0, .int 0, .long 0])), (q1, .inl (eJ E, 68, .inr (.inl (fun _ => 0)))), (q2, .inl (eJ E, 68, .inr (.inl (fun _ => 0))))] H := hP
  have hD : va_D A [(h0, .inr (6, [.ref q1, .null, .null, .int 0, .null, .null, .int 0, .int 0, .int 0, .null, .null, .int 0, .int 0, .int 0, .long 0])), (q1, .inl (eJ E, 68, .inr (.inl (fun _ => 0)))), (q2, .inl (eJ E, 68, .inr (.inl (fun _ => 0))))] := hD
  refine va_putF (D := E.1) (ci := 6) (v := .ref q2) (ty := tyX6 1) (C := RX6) (T := TX6) (N := 15) (pc := 17) hx hb hts ii_X6_init_X6 tyX6 tyX6_ok nmX6 hown hK.1 hP hD hS 0 rfl rfl 1 (by decide) (hts _ mm_X6_init_6) (fun _ h9 => h9) rfl hin rfl (by decide +kernel) rfl rfl (Nat.le_of_ble_eq_true rfl) dX6_init_17 (fun H locs hP hD hS => ?_)
  have hP : va_P E.1 vwCl [(h0, .inr (6, [.ref q1, .ref q2, .null, .int 0, .null, .null, .int 0, .int 0, .int 0, .null, .null, .int 0, .int 0, .int 0, .long 0])), (q1, .inl (eJ E, 68, .inr (.inl (fun _ => 0)))), (q2, .inl (eJ E, 68, .inr (.inl (fun _ => 0))))] H := hP
  have hD : va_D A [(h0, .inr (6, [.ref q1, .ref q2, .null, .int 0, .null, .null, .int 0, .int 0, .int 0, .null, .null, .int 0, .int 0, .int 0, .long 0])), (q1, .inl (eJ E, 68, .inr (.inl (fun _ => 0)))), (q2, .inl (eJ E, 68, .inr (.inl (fun _ => 0))))] := hD
  refine lv_aload_n (pc := 20) hx hb dX6_init_20 rfl (lv_at hl 0 rfl) ?_
  refine lv_sipush (v := 340) (pc := 21) hx hb dX6_init_21 rfl ?_
  refine g_newl (N' := 340) (pc := 24) hx hb (hts _ mm_X6_init_4) hK hP hD hS hA (by decide) (by decide) (by decide) (Nat.le_of_ble_eq_true rfl) (Nat.le_of_ble_eq_true rfl) dX6_init_24 (fun q3 H hP hD hS => ?_)
  have hP : va_P E.1 vwCl [(h0, .inr (6, [.ref q1, .ref q2, .null, .int 0, .null, .null, .int 0, .int 0, .int 0, .null, .null, .int 0, .int 0, .int 0, .long 0])), (q1, .inl (eJ E, 68, .inr (.inl (fun _ => 0)))), (q2, .inl (eJ E, 68, .inr (.inl (fun _ => 0)))), (q3, .inl (eJ E, 340, .inr (.inl (fun _ => 0))))] H := hP
  have hD : va_D A [(h0, .inr (6, [.ref q1, .ref q2, .null, .int 0, .null, .null, .int 0, .int 0, .int 0, .null, .null, .int 0, .int 0, .int 0, .long 0])), (q1, .inl (eJ E, 68, .inr (.inl (fun _ => 0)))), (q2, .inl (eJ E, 68, .inr (.inl (fun _ => 0)))), (q3, .inl (eJ E, 340, .inr (.inl (fun _ => 0))))] := hD
  refine va_putF (D := E.1) (ci := 6) (v := .ref q3) (ty := tyX6 2) (C := RX6) (T := TX6) (N := 15) (pc := 26) hx hb hts ii_X6_init_X6 tyX6 tyX6_ok nmX6 hown hK.1 hP hD hS 0 rfl rfl 2 (by decide) (hts _ mm_X6_init_7) (fun _ h9 => h9) rfl hin rfl (by decide +kernel) rfl rfl (Nat.le_of_ble_eq_true rfl) dX6_init_26 (fun H locs hP hD hS => ?_)
  have hP : va_P E.1 vwCl [(h0, .inr (6, [.ref q1, .ref q2, .ref q3, .int 0, .null, .null, .int 0, .int 0, .int 0, .null, .null, .int 0, .int 0, .int 0, .long 0])), (q1, .inl (eJ E, 68, .inr (.inl (fun _ => 0)))), (q2, .inl (eJ E, 68, .inr (.inl (fun _ => 0)))), (q3, .inl (eJ E, 340, .inr (.inl (fun _ => 0))))] H := hP
  have hD : va_D A [(h0, .inr (6, [.ref q1, .ref q2, .ref q3, .int 0, .null, .null, .int 0, .int 0, .int 0, .null, .null, .int 0, .int 0, .int 0, .long 0])), (q1, .inl (eJ E, 68, .inr (.inl (fun _ => 0)))), (q2, .inl (eJ E, 68, .inr (.inl (fun _ => 0)))), (q3, .inl (eJ E, 340, .inr (.inl (fun _ => 0))))] := hD
  refine lv_aload_n (pc := 29) hx hb dX6_init_29 rfl (lv_at hl 0 rfl) ?_
  refine lv_iconst (v := 3) (pc := 30) hx hb dX6_init_30 rfl ?_
  refine g_newi (N' := 3) (pc := 31) hx hb (hts _ mm_X6_init_8) hK hP hD hS hA (by decide) (by decide) (by decide) (Nat.le_of_ble_eq_true rfl) (Nat.le_of_ble_eq_true rfl) dX6_init_31 (fun q4 H hP hD hS => ?_)
  have hP : va_P E.1 vwCl [(h0, .inr (6, [.ref q1, .ref q2, .ref q3, .int 0, .null, .null, .int 0, .int 0, .int 0, .null, .null, .int 0, .int 0, .int 0, .long 0])), (q1, .inl (eJ E, 68, .inr (.inl (fun _ => 0)))), (q2, .inl (eJ E, 68, .inr (.inl (fun _ => 0)))), (q3, .inl (eJ E, 340, .inr (.inl (fun _ => 0)))), (q4, .inl (eI E, 3, .inl (fun _ => 0)))] H := hP
  have hD : va_D A [(h0, .inr (6, [.ref q1, .ref q2, .ref q3, .int 0, .null, .null, .int 0, .int 0, .int 0, .null, .null, .int 0, .int 0, .int 0, .long 0])), (q1, .inl (eJ E, 68, .inr (.inl (fun _ => 0)))), (q2, .inl (eJ E, 68, .inr (.inl (fun _ => 0)))), (q3, .inl (eJ E, 340, .inr (.inl (fun _ => 0)))), (q4, .inl (eI E, 3, .inl (fun _ => 0)))] := hD
  refine va_putF (D := E.1) (ci := 6) (v := .ref q4) (ty := tyX6 4) (C := RX6) (T := TX6) (N := 15) (pc := 33) hx hb hts ii_X6_init_X6 tyX6 tyX6_ok nmX6 hown hK.1 hP hD hS 0 rfl rfl 4 (by decide) (hts _ mm_X6_init_9) (fun _ h9 => h9) rfl hin rfl (by decide +kernel) rfl rfl (Nat.le_of_ble_eq_true rfl) dX6_init_33 (fun H locs hP hD hS => ?_)
  have hP : va_P E.1 vwCl [(h0, .inr (6, [.ref q1, .ref q2, .ref q3, .int 0, .ref q4, .null, .int 0, .int 0, .int 0, .null, .null, .int 0, .int 0, .int 0, .long 0])), (q1, .inl (eJ E, 68, .inr (.inl (fun _ => 0)))), (q2, .inl (eJ E, 68, .inr (.inl (fun _ => 0)))), (q3, .inl (eJ E, 340, .inr (.inl (fun _ => 0)))), (q4, .inl (eI E, 3, .inl (fun _ => 0)))] H := hP
  have hD : va_D A [(h0, .inr (6, [.ref q1, .ref q2, .ref q3, .int 0, .ref q4, .null, .int 0, .int 0, .int 0, .null, .null, .int 0, .int 0, .int 0, .long 0])), (q1, .inl (eJ E, 68, .inr (.inl (fun _ => 0)))), (q2, .inl (eJ E, 68, .inr (.inl (fun _ => 0)))), (q3, .inl (eJ E, 340, .inr (.inl (fun _ => 0)))), (q4, .inl (eI E, 3, .inl (fun _ => 0)))] := hD
  refine lv_aload_n (pc := 36) hx hb dX6_init_36 rfl (lv_at hl 0 rfl) ?_
  refine lv_bipush (v := 120) (pc := 37) hx hb dX6_init_37 rfl ?_
  refine g_newi (N' := 120) (pc := 39) hx hb (hts _ mm_X6_init_8) hK hP hD hS hA (by decide) (by decide) (by decide) (Nat.le_of_ble_eq_true rfl) (Nat.le_of_ble_eq_true rfl) dX6_init_39 (fun q5 H hP hD hS => ?_)
  have hP : va_P E.1 vwCl [(h0, .inr (6, [.ref q1, .ref q2, .ref q3, .int 0, .ref q4, .null, .int 0, .int 0, .int 0, .null, .null, .int 0, .int 0, .int 0, .long 0])), (q1, .inl (eJ E, 68, .inr (.inl (fun _ => 0)))), (q2, .inl (eJ E, 68, .inr (.inl (fun _ => 0)))), (q3, .inl (eJ E, 340, .inr (.inl (fun _ => 0)))), (q4, .inl (eI E, 3, .inl (fun _ => 0))), (q5, .inl (eI E, 120, .inl (fun _ => 0)))] H := hP
  have hD : va_D A [(h0, .inr (6, [.ref q1, .ref q2, .ref q3, .int 0, .ref q4, .null, .int 0, .int 0, .int 0, .null, .null, .int 0, .int 0, .int 0, .long 0])), (q1, .inl (eJ E, 68, .inr (.inl (fun _ => 0)))), (q2, .inl (eJ E, 68, .inr (.inl (fun _ => 0)))), (q3, .inl (eJ E, 340, .inr (.inl (fun _ => 0)))), (q4, .inl (eI E, 3, .inl (fun _ => 0))), (q5, .inl (eI E, 120, .inl (fun _ => 0)))] := hD
  refine va_putF (D := E.1) (ci := 6) (v := .ref q5) (ty := tyX6 5) (C := RX6) (T := TX6) (N := 15) (pc := 41) hx hb hts ii_X6_init_X6 tyX6 tyX6_ok nmX6 hown hK.1 hP hD hS 0 rfl rfl 5 (by decide) (hts _ mm_X6_init_10) (fun _ h9 => h9) rfl hin rfl (by decide +kernel) rfl rfl (Nat.le_of_ble_eq_true rfl) dX6_init_41 (fun H locs hP hD hS => ?_)
  have hP : va_P E.1 vwCl [(h0, .inr (6, [.ref q1, .ref q2, .ref q3, .int 0, .ref q4, .ref q5, .int 0, .int 0, .int 0, .null, .null, .int 0, .int 0, .int 0, .long 0])), (q1, .inl (eJ E, 68, .inr (.inl (fun _ => 0)))), (q2, .inl (eJ E, 68, .inr (.inl (fun _ => 0)))), (q3, .inl (eJ E, 340, .inr (.inl (fun _ => 0)))), (q4, .inl (eI E, 3, .inl (fun _ => 0))), (q5, .inl (eI E, 120, .inl (fun _ => 0)))] H := hP
  have hD : va_D A [(h0, .inr (6, [.ref q1, .ref q2, .ref q3, .int 0, .ref q4, .ref q5, .int 0, .int 0, .int 0, .null, .null, .int 0, .int 0, .int 0, .long 0])), (q1, .inl (eJ E, 68, .inr (.inl (fun _ => 0)))), (q2, .inl (eJ E, 68, .inr (.inl (fun _ => 0)))), (q3, .inl (eJ E, 340, .inr (.inl (fun _ => 0)))), (q4, .inl (eI E, 3, .inl (fun _ => 0))), (q5, .inl (eI E, 120, .inl (fun _ => 0)))] := hD
  refine lv_aload_n (pc := 44) hx hb dX6_init_44 rfl (lv_at hl 0 rfl) ?_
  refine lv_bipush (v := 60) (pc := 45) hx hb dX6_init_45 rfl ?_
  refine g_newi (N' := 60) (pc := 47) hx hb (hts _ mm_X6_init_8) hK hP hD hS hA (by decide) (by decide) (by decide) (Nat.le_of_ble_eq_true rfl) (Nat.le_of_ble_eq_true rfl) dX6_init_47 (fun q6 H hP hD hS => ?_)
  have hP : va_P E.1 vwCl [(h0, .inr (6, [.ref q1, .ref q2, .ref q3, .int 0, .ref q4, .ref q5, .int 0, .int 0, .int 0, .null, .null, .int 0, .int 0, .int 0, .long 0])), (q1, .inl (eJ E, 68, .inr (.inl (fun _ => 0)))), (q2, .inl (eJ E, 68, .inr (.inl (fun _ => 0)))), (q3, .inl (eJ E, 340, .inr (.inl (fun _ => 0)))), (q4, .inl (eI E, 3, .inl (fun _ => 0))), (q5, .inl (eI E, 120, .inl (fun _ => 0))), (q6, .inl (eI E, 60, .inl (fun _ => 0)))] H := hP
  have hD : va_D A [(h0, .inr (6, [.ref q1, .ref q2, .ref q3, .int 0, .ref q4, .ref q5, .int 0, .int 0, .int 0, .null, .null, .int 0, .int 0, .int 0, .long 0])), (q1, .inl (eJ E, 68, .inr (.inl (fun _ => 0)))), (q2, .inl (eJ E, 68, .inr (.inl (fun _ => 0)))), (q3, .inl (eJ E, 340, .inr (.inl (fun _ => 0)))), (q4, .inl (eI E, 3, .inl (fun _ => 0))), (q5, .inl (eI E, 120, .inl (fun _ => 0))), (q6, .inl (eI E, 60, .inl (fun _ => 0)))] := hD
  refine va_putF (D := E.1) (ci := 6) (v := .ref q6) (ty := tyX6 9) (C := RX6) (T := TX6) (N := 15) (pc := 49) hx hb hts ii_X6_init_X6 tyX6 tyX6_ok nmX6 hown hK.1 hP hD hS 0 rfl rfl 9 (by decide) (hts _ mm_X6_init_11) (fun _ h9 => h9) rfl hin rfl (by decide +kernel) rfl rfl (Nat.le_of_ble_eq_true rfl) dX6_init_49 (fun H locs hP hD hS => ?_)
  have hP : va_P E.1 vwCl [(h0, .inr (6, [.ref q1, .ref q2, .ref q3, .int 0, .ref q4, .ref q5, .int 0, .int 0, .int 0, .ref q6, .null, .int 0, .int 0, .int 0, .long 0])), (q1, .inl (eJ E, 68, .inr (.inl (fun _ => 0)))), (q2, .inl (eJ E, 68, .inr (.inl (fun _ => 0)))), (q3, .inl (eJ E, 340, .inr (.inl (fun _ => 0)))), (q4, .inl (eI E, 3, .inl (fun _ => 0))), (q5, .inl (eI E, 120, .inl (fun _ => 0))), (q6, .inl (eI E, 60, .inl (fun _ => 0)))] H := hP
  have hD : va_D A [(h0, .inr (6, [.ref q1, .ref q2, .ref q3, .int 0, .ref q4, .ref q5, .int 0, .int 0, .int 0, .ref q6, .null, .int 0, .int 0, .int 0, .long 0])), (q1, .inl (eJ E, 68, .inr (.inl (fun _ => 0)))), (q2, .inl (eJ E, 68, .inr (.inl (fun _ => 0)))), (q3, .inl (eJ E, 340, .inr (.inl (fun _ => 0)))), (q4, .inl (eI E, 3, .inl (fun _ => 0))), (q5, .inl (eI E, 120, .inl (fun _ => 0))), (q6, .inl (eI E, 60, .inl (fun _ => 0)))] := hD
  refine lv_aload_n (pc := 52) hx hb dX6_init_52 rfl (lv_at hl 0 rfl) ?_
  refine lv_bipush (v := 120) (pc := 53) hx hb dX6_init_53 rfl ?_
  refine g_newi (N' := 120) (pc := 55) hx hb (hts _ mm_X6_init_8) hK hP hD hS hA (by decide) (by decide) (by decide) (Nat.le_of_ble_eq_true rfl) (Nat.le_of_ble_eq_true rfl) dX6_init_55 (fun q7 H hP hD hS => ?_)
  have hP : va_P E.1 vwCl [(h0, .inr (6, [.ref q1, .ref q2, .ref q3, .int 0, .ref q4, .ref q5, .int 0, .int 0, .int 0, .ref q6, .null, .int 0, .int 0, .int 0, .long 0])), (q1, .inl (eJ E, 68, .inr (.inl (fun _ => 0)))), (q2, .inl (eJ E, 68, .inr (.inl (fun _ => 0)))), (q3, .inl (eJ E, 340, .inr (.inl (fun _ => 0)))), (q4, .inl (eI E, 3, .inl (fun _ => 0))), (q5, .inl (eI E, 120, .inl (fun _ => 0))), (q6, .inl (eI E, 60, .inl (fun _ => 0))), (q7, .inl (eI E, 120, .inl (fun _ => 0)))] H := hP
  have hD : va_D A [(h0, .inr (6, [.ref q1, .ref q2, .ref q3, .int 0, .ref q4, .ref q5, .int 0, .int 0, .int 0, .ref q6, .null, .int 0, .int 0, .int 0, .long 0])), (q1, .inl (eJ E, 68, .inr (.inl (fun _ => 0)))), (q2, .inl (eJ E, 68, .inr (.inl (fun _ => 0)))), (q3, .inl (eJ E, 340, .inr (.inl (fun _ => 0)))), (q4, .inl (eI E, 3, .inl (fun _ => 0))), (q5, .inl (eI E, 120, .inl (fun _ => 0))), (q6, .inl (eI E, 60, .inl (fun _ => 0))), (q7, .inl (eI E, 120, .inl (fun _ => 0)))] := hD
  refine va_putF (D := E.1) (ci := 6) (v := .ref q7) (ty := tyX6 10) (C := RX6) (T := TX6) (N := 15) (pc := 57) hx hb hts ii_X6_init_X6 tyX6 tyX6_ok nmX6 hown hK.1 hP hD hS 0 rfl rfl 10 (by decide) (hts _ mm_X6_init_12) (fun _ h9 => h9) rfl hin rfl (by decide +kernel) rfl rfl (Nat.le_of_ble_eq_true rfl) dX6_init_57 (fun H locs hP hD hS => ?_)
  have hP : va_P E.1 vwCl [(h0, .inr (6, [.ref q1, .ref q2, .ref q3, .int 0, .ref q4, .ref q5, .int 0, .int 0, .int 0, .ref q6, .ref q7, .int 0, .int 0, .int 0, .long 0])), (q1, .inl (eJ E, 68, .inr (.inl (fun _ => 0)))), (q2, .inl (eJ E, 68, .inr (.inl (fun _ => 0)))), (q3, .inl (eJ E, 340, .inr (.inl (fun _ => 0)))), (q4, .inl (eI E, 3, .inl (fun _ => 0))), (q5, .inl (eI E, 120, .inl (fun _ => 0))), (q6, .inl (eI E, 60, .inl (fun _ => 0))), (q7, .inl (eI E, 120, .inl (fun _ => 0)))] H := hP
  have hD : va_D A [(h0, .inr (6, [.ref q1, .ref q2, .ref q3, .int 0, .ref q4, .ref q5, .int 0, .int 0, .int 0, .ref q6, .ref q7, .int 0, .int 0, .int 0, .long 0])), (q1, .inl (eJ E, 68, .inr (.inl (fun _ => 0)))), (q2, .inl (eJ E, 68, .inr (.inl (fun _ => 0)))), (q3, .inl (eJ E, 340, .inr (.inl (fun _ => 0)))), (q4, .inl (eI E, 3, .inl (fun _ => 0))), (q5, .inl (eI E, 120, .inl (fun _ => 0))), (q6, .inl (eI E, 60, .inl (fun _ => 0))), (q7, .inl (eI E, 120, .inl (fun _ => 0)))] := hD
  refine lv_aload_n (pc := 60) hx hb dX6_init_60 rfl (lv_at hl 0 rfl) ?_
  refine g_get (v := .ref q1) (pc := 61) hx hb hts ii_X6_init_X6 hown hK.1 hP 0 rfl rfl 0 (by decide) ⟨rfl, rfl, rfl⟩ mm_X6_init_5 rfl dX6_init_61 ?_
  refine lv_iconst (v := 1) (pc := 64) hx hb dX6_init_64 rfl ?_
  refine lv_ldc2 (v := (1000)) (pc := 65) hx hb hown (hts _ mm_X6_init_13) dX6_init_65 ?_
  refine g_last (j := 1) (w1 := [(h0, .inr (6, [.ref q1, .ref q2, .ref q3, .int 0, .ref q4, .ref q5, .int 0, .int 0, .int 0, .ref q6, .ref q7, .int 0, .int 0, .int 0, .long 0])), (q1, .inl (eJ E, 68, .inr (.inl (vp_updL (fun _ => 0) 1 1000)))), (q2, .inl (eJ E, 68, .inr (.inl (fun _ => 0)))), (q3, .inl (eJ E, 340, .inr (.inl (fun _ => 0)))), (q4, .inl (eI E, 3, .inl (fun _ => 0))), (q5, .inl (eI E, 120, .inl (fun _ => 0))), (q6, .inl (eI E, 60, .inl (fun _ => 0))), (q7, .inl (eI E, 120, .inl (fun _ => 0)))]) (pc := 68) hx hb hK.1 hP hD hS 1 1 rfl rfl (g_in (by decide +kernel)) rfl rfl dX6_init_68 (fun H locs hP hD hS => ?_)
  refine lv_aload_n (pc := 69) hx hb dX6_init_69 rfl (lv_at hl 0 rfl) ?_
  refine g_get (v := .ref q1) (pc := 70) hx hb hts ii_X6_init_X6 hown hK.1 hP 0 rfl rfl 0 (by decide) ⟨rfl, rfl, rfl⟩ mm_X6_init_5 rfl dX6_init_70 ?_
  refine lv_iconst (v := 2) (pc := 73) hx hb dX6_init_73 rfl ?_
  refine lv_ldc2 (v := (500)) (pc := 74) hx hb hown (hts _ mm_X6_init_14) dX6_init_74 ?_
  refine g_last (j := 2) (w1 := [(h0, .inr (6, [.ref q1, .ref q2, .ref q3, .int 0, .ref q4, .ref q5, .int 0, .int 0, .int 0, .ref q6, .ref q7, .int 0, .int 0, .int 0, .long 0])), (q1, .inl (eJ E, 68, .inr (.inl (vp_updL (vp_updL (fun _ => 0) 1 1000) 2 500)))), (q2, .inl (eJ E, 68, .inr (.inl (fun _ => 0)))), (q3, .inl (eJ E, 340, .inr (.inl (fun _ => 0)))), (q4, .inl (eI E, 3, .inl (fun _ => 0))), (q5, .inl (eI E, 120, .inl (fun _ => 0))), (q6, .inl (eI E, 60, .inl (fun _ => 0))), (q7, .inl (eI E, 120, .inl (fun _ => 0)))]) (pc := 77) hx hb hK.1 hP hD hS 1 1 rfl rfl (g_in (by decide +kernel)) rfl rfl dX6_init_77 (fun H locs hP hD hS => ?_)
  refine lv_aload_n (pc := 78) hx hb dX6_init_78 rfl (lv_at hl 0 rfl) ?_
  refine g_get (v := .ref q1) (pc := 79) hx hb hts ii_X6_init_X6 hown hK.1 hP 0 rfl rfl 0 (by decide) ⟨rfl, rfl, rfl⟩ mm_X6_init_5 rfl dX6_init_79 ?_
  refine lv_iconst (v := 3) (pc := 82) hx hb dX6_init_82 rfl ?_
  refine lv_ldc2 (v := (1000)) (pc := 83) hx hb hown (hts _ mm_X6_init_13) dX6_init_83 ?_
  refine g_last (j := 3) (w1 := [(h0, .inr (6, [.ref q1, .ref q2, .ref q3, .int 0, .ref q4, .ref q5, .int 0, .int 0, .int 0, .ref q6, .ref q7, .int 0, .int 0, .int 0, .long 0])), (q1, .inl (eJ E, 68, .inr (.inl (vp_updL (vp_updL (vp_updL (fun _ => 0) 1 1000) 2 500) 3 1000)))), (q2, .inl (eJ E, 68, .inr (.inl (fun _ => 0)))), (q3, .inl (eJ E, 340, .inr (.inl (fun _ => 0)))), (q4, .inl (eI E, 3, .inl (fun _ => 0))), (q5, .inl (eI E, 120, .inl (fun _ => 0))), (q6, .inl (eI E, 60, .inl (fun _ => 0))), (q7, .inl (eI E, 120, .inl (fun _ => 0)))]) (pc := 86) hx hb hK.1 hP hD hS 1 1 rfl rfl (g_in (by decide +kernel)) rfl rfl dX6_init_86 (fun H locs hP hD hS => ?_)
  refine lv_aload_n (pc := 87) hx hb dX6_init_87 rfl (lv_at hl 0 rfl) ?_
  refine g_get (v := .ref q1) (pc := 88) hx hb hts ii_X6_init_X6 hown hK.1 hP 0 rfl rfl 0 (by decide) ⟨rfl, rfl, rfl⟩ mm_X6_init_5 rfl dX6_init_88 ?_
  refine lv_iconst (v := 4) (pc := 91) hx hb dX6_init_91 rfl ?_
  refine lv_ldc2 (v := (100)) (pc := 92) hx hb hown (hts _ mm_X6_init_15) dX6_init_92 ?_
  refine g_last (j := 4) (w1 := [(h0, .inr (6, [.ref q1, .ref q2, .ref q3, .int 0, .ref q4, .ref q5, .int 0, .int 0, .int 0, .ref q6, .ref q7, .int 0, .int 0, .int 0, .long 0])), (q1, .inl (eJ E, 68, .inr (.inl (vp_updL (vp_updL (vp_updL (vp_updL (fun _ => 0) 1 1000) 2 500) 3 1000) 4 100)))), (q2, .inl (eJ E, 68, .inr (.inl (fun _ => 0)))), (q3, .inl (eJ E, 340, .inr (.inl (fun _ => 0)))), (q4, .inl (eI E, 3, .inl (fun _ => 0))), (q5, .inl (eI E, 120, .inl (fun _ => 0))), (q6, .inl (eI E, 60, .inl (fun _ => 0))), (q7, .inl (eI E, 120, .inl (fun _ => 0)))]) (pc := 95) hx hb hK.1 hP hD hS 1 1 rfl rfl (g_in (by decide +kernel)) rfl rfl dX6_init_95 (fun H locs hP hD hS => ?_)
  refine lv_aload_n (pc := 96) hx hb dX6_init_96 rfl (lv_at hl 0 rfl) ?_
  refine g_get (v := .ref q1) (pc := 97) hx hb hts ii_X6_init_X6 hown hK.1 hP 0 rfl rfl 0 (by decide) ⟨rfl, rfl, rfl⟩ mm_X6_init_5 rfl dX6_init_97 ?_
  refine lv_bipush (v := 9) (pc := 100) hx hb dX6_init_100 rfl ?_
  refine lv_ldc2 (v := (-10000001)) (pc := 102) hx hb hown (hts _ mm_X6_init_16) dX6_init_102 ?_
  refine g_last (j := 9) (w1 := [(h0, .inr (6, [.ref q1, .ref q2, .ref q3, .int 0, .ref q4, .ref q5, .int 0, .int 0, .int 0, .ref q6, .ref q7, .int 0, .int 0, .int 0, .long 0])), (q1, .inl (eJ E, 68, .inr (.inl (vp_updL (vp_updL (vp_updL (vp_updL (vp_updL (fun _ => 0) 1 1000) 2 500) 3 1000) 4 100) 9 (-10000001))))), (q2, .inl (eJ E, 68, .inr (.inl (fun _ => 0)))), (q3, .inl (eJ E, 340, .inr (.inl (fun _ => 0)))), (q4, .inl (eI E, 3, .inl (fun _ => 0))), (q5, .inl (eI E, 120, .inl (fun _ => 0))), (q6, .inl (eI E, 60, .inl (fun _ => 0))), (q7, .inl (eI E, 120, .inl (fun _ => 0)))]) (pc := 105) hx hb hK.1 hP hD hS 1 1 rfl rfl (g_in (by decide +kernel)) rfl rfl dX6_init_105 (fun H locs hP hD hS => ?_)
  refine lv_aload_n (pc := 106) hx hb dX6_init_106 rfl (lv_at hl 0 rfl) ?_
  refine g_get (v := .ref q1) (pc := 107) hx hb hts ii_X6_init_X6 hown hK.1 hP 0 rfl rfl 0 (by decide) ⟨rfl, rfl, rfl⟩ mm_X6_init_5 rfl dX6_init_107 ?_
  refine lv_bipush (v := 10) (pc := 110) hx hb dX6_init_110 rfl ?_
  refine lv_ldc2 (v := (-10000001)) (pc := 112) hx hb hown (hts _ mm_X6_init_16) dX6_init_112 ?_
  refine g_last (j := 10) (w1 := [(h0, .inr (6, [.ref q1, .ref q2, .ref q3, .int 0, .ref q4, .ref q5, .int 0, .int 0, .int 0, .ref q6, .ref q7, .int 0, .int 0, .int 0, .long 0])), (q1, .inl (eJ E, 68, .inr (.inl (vp_updL (vp_updL (vp_updL (vp_updL (vp_updL (vp_updL (fun _ => 0) 1 1000) 2 500) 3 1000) 4 100) 9 (-10000001)) 10 (-10000001))))), (q2, .inl (eJ E, 68, .inr (.inl (fun _ => 0)))), (q3, .inl (eJ E, 340, .inr (.inl (fun _ => 0)))), (q4, .inl (eI E, 3, .inl (fun _ => 0))), (q5, .inl (eI E, 120, .inl (fun _ => 0))), (q6, .inl (eI E, 60, .inl (fun _ => 0))), (q7, .inl (eI E, 120, .inl (fun _ => 0)))]) (pc := 115) hx hb hK.1 hP hD hS 1 1 rfl rfl (g_in (by decide +kernel)) rfl rfl dX6_init_115 (fun H locs hP hD hS => ?_)
  refine lv_aload_n (pc := 116) hx hb dX6_init_116 rfl (lv_at hl 0 rfl) ?_
  refine g_get (v := .ref q1) (pc := 117) hx hb hts ii_X6_init_X6 hown hK.1 hP 0 rfl rfl 0 (by decide) ⟨rfl, rfl, rfl⟩ mm_X6_init_5 rfl dX6_init_117 ?_
  refine lv_bipush (v := 11) (pc := 120) hx hb dX6_init_120 rfl ?_
  refine lv_lconst (v := 1) (pc := 122) hx hb dX6_init_122 rfl ?_
  refine g_last (j := 11) (w1 := [(h0, .inr (6, [.ref q1, .ref q2, .ref q3, .int 0, .ref q4, .ref q5, .int 0, .int 0, .int 0, .ref q6, .ref q7, .int 0, .int 0, .int 0, .long 0])), (q1, .inl (eJ E, 68, .inr (.inl (vp_updL (vp_updL (vp_updL (vp_updL (vp_updL (vp_updL (vp_updL (fun _ => 0) 1 1000) 2 500) 3 1000) 4 100) 9 (-10000001)) 10 (-10000001)) 11 1)))), (q2, .inl (eJ E, 68, .inr (.inl (fun _ => 0)))), (q3, .inl (eJ E, 340, .inr (.inl (fun _ => 0)))), (q4, .inl (eI E, 3, .inl (fun _ => 0))), (q5, .inl (eI E, 120, .inl (fun _ => 0))), (q6, .inl (eI E, 60, .inl (fun _ => 0))), (q7, .inl (eI E, 120, .inl (fun _ => 0)))]) (pc := 123) hx hb hK.1 hP hD hS 1 1 rfl rfl (g_in (by decide +kernel)) rfl rfl dX6_init_123 (fun H locs hP hD hS => ?_)
  refine lv_aload_n (pc := 124) hx hb dX6_init_124 rfl (lv_at hl 0 rfl) ?_
  refine g_get (v := .ref q1) (pc := 125) hx hb hts ii_X6_init_X6 hown hK.1 hP 0 rfl rfl 0 (by decide) ⟨rfl, rfl, rfl⟩ mm_X6_init_5 rfl dX6_init_125 ?_
  refine lv_bipush (v := 12) (pc := 128) hx hb dX6_init_128 rfl ?_
  refine lv_ldc2 (v := (10)) (pc := 130) hx hb hown (hts _ mm_X6_init_17) dX6_init_130 ?_
  refine g_last (j := 12) (w1 := [(h0, .inr (6, [.ref q1, .ref q2, .ref q3, .int 0, .ref q4, .ref q5, .int 0, .int 0, .int 0, .ref q6, .ref q7, .int 0, .int 0, .int 0, .long 0])), (q1, .inl (eJ E, 68, .inr (.inl (vp_updL (vp_updL (vp_updL (vp_updL (vp_updL (vp_updL (vp_updL (vp_updL (fun _ => 0) 1 1000) 2 500) 3 1000) 4 100) 9 (-10000001)) 10 (-10000001)) 11 1) 12 10)))), (q2, .inl (eJ E, 68, .inr (.inl (fun _ => 0)))), (q3, .inl (eJ E, 340, .inr (.inl (fun _ => 0)))), (q4, .inl (eI E, 3, .inl (fun _ => 0))), (q5, .inl (eI E, 120, .inl (fun _ => 0))), (q6, .inl (eI E, 60, .inl (fun _ => 0))), (q7, .inl (eI E, 120, .inl (fun _ => 0)))]) (pc := 133) hx hb hK.1 hP hD hS 1 1 rfl rfl (g_in (by decide +kernel)) rfl rfl dX6_init_133 (fun H locs hP hD hS => ?_)
  refine lv_iconst (v := 0) (pc := 134) hx hb dX6_init_134 rfl ?_
  refine lv_istore_n (lv' := [(1, .int 0), (0, .ref h0)]) (pc := 135) hx hb dX6_init_135 rfl hl (by decide) rfl (fun ls hl => ?_)
  have loop11 : ∀ (n9 i8 : Nat), i8 + n9 = 11 → ∀ (H : Heap) (locs : List Loc) (ls : Array Slot), va_P E.1 vwCl [(h0, .inr (6, [.ref q1, .ref q2, .ref q3, .int 0, .ref q4, .ref q5, .int 0, .int 0, .int 0, .ref q6, .ref q7, .int 0, .int 0, .int 0, .long 0])), (q1, .inl (eJ E, 68, .inr (.inl (lpNw i8)))), (q2, .inl (eJ E, 68, .inr (.inl (fun _ => 0)))), (q3, .inl (eJ E, 340, .inr (.inl (fun _ => 0)))), (q4, .inl (eI E, 3, .inl (fun _ => 0))), (q5, .inl (eI E, 120, .inl (fun _ => 0))), (q6, .inl (eI E, 60, .inl (fun _ => 0))), (q7, .inl (eI E, 120, .inl (fun _ => 0)))] H → va_D A [(h0, .inr (6, [.ref q1, .ref q2, .ref q3, .int 0, .ref q4, .ref q5, .int 0, .int 0, .int 0, .ref q6, .ref q7, .int 0, .int 0, .int 0, .long 0])), (q1, .inl (eJ E, 68, .inr (.inl (lpNw i8)))), (q2, .inl (eJ E, 68, .inr (.inl (fun _ => 0)))), (q3, .inl (eJ E, 340, .inr (.inl (fun _ => 0)))), (q4, .inl (eI E, 3, .inl (fun _ => 0))), (q5, .inl (eI E, 120, .inl (fun _ => 0))), (q6, .inl (eI E, 60, .inl (fun _ => 0))), (q7, .inl (eI E, 120, .inl (fun _ => 0)))] → va_S A s.heap H locs → lv_has ls 2 [(0, .ref h0), (1, .int (nI i8))] → W p l e rX6_init s m args below meth c H locs 7 779 Q (F0 m 136 ls []) := by
    intro n9
    induction n9 with
    | zero =>
      intro i8 hi H locs ls hP hD hS hl
      obtain rfl : i8 = 11 := by omega
      refine lv_iload_n (pc := 136) hx hb dX6_init_136 rfl (lv_at hl 1 rfl) ?_
      refine lv_bipush (v := 11) (pc := 137) hx hb dX6_init_137 rfl ?_
      refine lv_icmp_ge (tgt := 167) (pc := 139) hx hb dX6_init_139 (by decide) (fun c_12 => ?_) (fun c_12 => ?_)
      rotate_left
      · exact absurd (nI_le (a := 11) (b := 11) (by decide) (by decide)) c_12
      exact hQ _ _ _ _ (fun k => if k = 0 then h0 else if k = 1 then q1 else if k = 2 then q2 else if k = 3 then q3 else if k = 4 then q4 else if k = 5 then q5 else if k = 6 then q6 else q7) _ _ (Nat.le_of_ble_eq_true rfl) (Nat.le_of_ble_eq_true rfl) rfl hP hD hS dX6_init_167
    | succ n9 ih10 =>
      intro i8 hi H locs ls hP hD hS hl
      have hlt : i8 < 11 := by omega
      refine lv_iload_n (pc := 136) hx hb dX6_init_136 rfl (lv_at hl 1 rfl) ?_
      refine lv_bipush (v := 11) (pc := 137) hx hb dX6_init_137 rfl ?_
      refine lv_icmp_ge (tgt := 167) (pc := 139) hx hb dX6_init_139 (by decide) (fun c_13 => ?_) (fun c_13 => ?_)
      · exact absurd c_13 (nI_ge (a := i8) (b := 11) (by omega) (by decide))
      refine lv_aload_n (pc := 142) hx hb dX6_init_142 rfl (lv_at hl 0 rfl) ?_
      refine g_get (v := .ref q1) (pc := 143) hx hb hts ii_X6_init_X6 hown hK.1 hP 0 rfl rfl 0 (by decide) ⟨rfl, rfl, rfl⟩ mm_X6_init_5 rfl dX6_init_143 ?_
      refine lv_bipush (v := 13) (pc := 146) hx hb dX6_init_146 rfl ?_
      refine lv_iload_n (pc := 148) hx hb dX6_init_148 rfl (lv_at hl 1 rfl) ?_
      refine lv_iadd (pc := 149) hx hb dX6_init_149 ?_
      refine lv_ldc2 (v := (3000)) (pc := 150) hx hb hown (hts _ mm_X6_init_18) dX6_init_150 ?_
      refine lv_ldc2 (v := (100)) (pc := 153) hx hb hown (hts _ mm_X6_init_15) dX6_init_153 ?_
      refine lv_iload_n (pc := 156) hx hb dX6_init_156 rfl (lv_at hl 1 rfl) ?_
      refine lv_i2l (v := (nI i8).toInt64) (pc := 157) hx hb dX6_init_157 rfl ?_
      refine lv_lmul (pc := 158) hx hb dX6_init_158 ?_
      refine lv_ladd (pc := 159) hx hb dX6_init_159 ?_
      refine g_topl (fun x14 ex14 => ?_)
      refine g_last (j := 13 + i8) (w1 := [(h0, .inr (6, [.ref q1, .ref q2, .ref q3, .int 0, .ref q4, .ref q5, .int 0, .int 0, .int 0, .ref q6, .ref q7, .int 0, .int 0, .int 0, .long 0])), (q1, .inl (eJ E, 68, .inr (.inl (vp_updL (lpNw i8) (13 + i8) x14)))), (q2, .inl (eJ E, 68, .inr (.inl (fun _ => 0)))), (q3, .inl (eJ E, 340, .inr (.inl (fun _ => 0)))), (q4, .inl (eI E, 3, .inl (fun _ => 0))), (q5, .inl (eI E, 120, .inl (fun _ => 0))), (q6, .inl (eI E, 60, .inl (fun _ => 0))), (q7, .inl (eI E, 120, .inl (fun _ => 0)))]) (pc := 160) hx hb hK.1 hP hD hS 1 1 rfl rfl (ix_off (a := 13) (by omega) (by decide)) (cl_off (a := 13) (by omega)) rfl dX6_init_160 (fun H locs hP hD hS => ?_)
      refine lv_iinc (v := nI (i8 + 1)) (lv' := [(1, .int (nI (i8 + 1))), (0, .ref h0)]) (pc := 161) hx hb dX6_init_161 hl (k := 1) rfl (nI_1 i8) (by decide) rfl (fun ls hl => ?_)
      refine lv_goto (tgt := 136) (pc := 164) hx hb dX6_init_164 (by decide) ?_
      subst ex14
      exact ih10 (i8 + 1) (by omega) _ _ _ hP hD hS (lv_sub hl [1, 0] rfl)
  exact loop11 11 0 (by decide) _ _ _ hP hD hS (lv_sub hl [1, 0] rfl)
