/-! the class's text -/
abbrev wTx (E : gEnv) (t : Nat → Nat) (n o q : Nat) (u : Int32) (b ks fs ss : Nat → Int32) : va_W := [(t 0, .inr (4, [.ref (t 1), .int (nI n), .ref (t 2), .ref (t 3), .ref (t 4), .int (nI o), .int (nI q), .int u])), (t 1, .inl (eB E, 120, .inl b)), (t 2, .inl (eI E, 40, .inl ks)), (t 3, .inl (eI E, 40, .inl fs)), (t 4, .inl (eI E, 40, .inl ss))]
theorem nle {a b : Nat} (ha : a ≤ 200) (hb : b ≤ 200) : nI a ≤ nI b ↔ a ≤ b := nI_leI (by omega) (by omega)
theorem nlt {a b : Nat} (ha : a ≤ 200) (hb : b ≤ 200) : nI a < nI b ↔ a < b := nI_ltI (by omega) (by omega)
theorem zb {f : Int32} (h : f = 0 ∨ f = 1) : narrow .boolean (.int f) = .int f := by rcases h with rfl | rfl <;> rfl
def fX4_here (b : Nat → Int32) (n q : Nat) : Int32 := if q < n then b q else (-1)
def skF (b : Nat → Int32) : Nat → Nat → Nat
  | 0, q => q
  | f + 1, q => if b q = 32 then skF b f (q + 1) else q
def sk (b : Nat → Int32) (n q : Nat) : Nat := skF b (n - q) q
theorem skF_le (b : Nat → Int32) : ∀ (f q : Nat), q ≤ skF b f q ∧ skF b f q ≤ q + f
  | 0, q => ⟨Nat.le_refl q, Nat.le_refl q⟩
  | f + 1, q => by
    have ih := skF_le b f (q + 1)
    show q ≤ (if b q = 32 then skF b f (q + 1) else q) ∧ (if b q = 32 then skF b f (q + 1) else q) ≤ q + (f + 1)
    by_cases h : b q = 32
    · rw [if_pos h]; omega
    · rw [if_neg h]; omega
theorem sk_le {b : Nat → Int32} {n q : Nat} (h : q ≤ n) : sk b n q ≤ n := by have := skF_le b (n - q) q; unfold sk; omega
theorem sk_ge (b : Nat → Int32) (n q : Nat) : q ≤ sk b n q := by have := skF_le b (n - q) q; unfold sk; omega
theorem hr_lt {b : Nat → Int32} {n q : Nat} (h : ¬ fX4_here b n q = (-1)) : q < n := by
  rcases Nat.lt_or_ge q n with h1 | h1
  · exact h1
  · exact absurd (if_neg (Nat.not_lt.mpr h1)) h
theorem fg_lt {b : Nat → Int32} {n q : Nat} (h : ¬ fX4_isFigure (fX4_here b n q) = 0) : q < n := hr_lt (fun e => h (by rw [e]; decide))
theorem ik_lt {b : Nat → Int32} {n q : Nat} (h : ¬ fX4_isKind (fX4_here b n q) = 0) : q < n := hr_lt (fun e => h (by rw [e]; decide))

abbrev rX4_here : Room := { frames := 0, cells := 0, slots := 0, locals := 0 }
theorem mm_X4_here_1 : Cond.fieldLink RX4 38 "GaugeBounds$Text" "place" "I" ∈ wsX4_here := List.mem_of_getElem? (i := 1) rfl
theorem mm_X4_here_2 : Cond.fieldLink RX4 25 "GaugeBounds$Text" "length" "I" ∈ wsX4_here := List.mem_of_getElem? (i := 2) rfl
theorem mm_X4_here_3 : Cond.fieldLink RX4 11 "GaugeBounds$Text" "bytes" "[B" ∈ wsX4_here := List.mem_of_getElem? (i := 3) rfl
theorem ii_X4_here_X4 : ∀ w ∈ wsX40, w ∈ wsX4_here := fun _ h => List.mem_cons_of_mem _ (List.mem_append_right _ (h))
theorem qvX4_here : yX4_here.cls = RX4 ∧ yX4_here.cls ≠ "java/lang/invoke/MethodHandle" ∧ yX4_here.cls ≠ "java/lang/invoke/VarHandle" ∧ (parseMethodDescriptor yX4_here.desc).map (fun d => d.parameters.length) = some 0 := by decide +kernel
set_option maxHeartbeats 4000000 in
set_option maxRecDepth 100000 in
theorem kX4_here (l : Launch) (E : gEnv) (t : Nat → Nat) (n o q : Nat) (u : Int32) (b ks fs ss : Nat → Int32) (hn : n ≤ 120) (hq : q ≤ n) : gMi l E yX4_here wsX4_here rX4_here [.ref (t 0)] (wTx E t n o q u b ks fs ss) (fX4_here b n q) (wTx E t n o q u b ks fs ss) := by
  refine gMi_of (cc := cX4_here) (maxL := 1) (ret := (some .int)) (by decide) rfl rfl (Nat.le_of_ble_eq_true rfl) ?_
  intro p e s m args below meth c A Q ls hB hQ
  obtain ⟨hx, hb, hml, hown, hts, hK, hP, hD, hA, hS, hl⟩ := hB
  have hown : s.vm.findClass RX4 = some m.cls := hown
  have hP : va_P E.1 vwCl [(t 0, .inr (4, [.ref (t 1), .int (nI n), .ref (t 2), .ref (t 3), .ref (t 4), .int (nI o), .int (nI q), .int u])), (t 1, .inl (eB E, 120, .inl b)), (t 2, .inl (eI E, 40, .inl ks)), (t 3, .inl (eI E, 40, .inl fs)), (t 4, .inl (eI E, 40, .inl ss))] s.heap := hP
  have hD : va_D A [(t 0, .inr (4, [.ref (t 1), .int (nI n), .ref (t 2), .ref (t 3), .ref (t 4), .int (nI o), .int (nI q), .int u])), (t 1, .inl (eB E, 120, .inl b)), (t 2, .inl (eI E, 40, .inl ks)), (t 3, .inl (eI E, 40, .inl fs)), (t 4, .inl (eI E, 40, .inl ss))] := hD
  have hl : lv_has ls 1 [(0, .ref (t 0))] := hl
  refine lv_aload_n (pc := 0) hx hb dX4_here_0 rfl (lv_at hl 0 rfl) ?_
  refine g_get (v := .int (nI q)) (pc := 1) hx hb hts ii_X4_here_X4 hown hK.1 hP 0 rfl rfl 6 (by decide) ⟨rfl, rfl, rfl⟩ mm_X4_here_1 rfl dX4_here_1 ?_
  refine lv_aload_n (pc := 4) hx hb dX4_here_4 rfl (lv_at hl 0 rfl) ?_
  refine g_get (v := .int (nI n)) (pc := 5) hx hb hts ii_X4_here_X4 hown hK.1 hP 0 rfl rfl 1 (by decide) ⟨rfl, rfl, rfl⟩ mm_X4_here_2 rfl dX4_here_5 ?_
  refine lv_icmp_ge (tgt := 23) (pc := 8) hx hb dX4_here_8 (by decide) (fun c_1 => ?_) (fun c_1 => ?_)
  · refine lv_iconst (v := (-1)) (pc := 23) hx hb dX4_here_23 rfl ?_
    have hfn : fX4_here b n q = (-1) := if_neg (Nat.not_lt.mpr ((nle (by omega) (by omega)).mp c_1))
    rw [hfn] at hQ
    exact hQ _ _ _ _ _ rfl hP hD hS dX4_here_24
  · refine lv_aload_n (pc := 11) hx hb dX4_here_11 rfl (lv_at hl 0 rfl) ?_
    refine g_get (v := .ref (t 1)) (pc := 12) hx hb hts ii_X4_here_X4 hown hK.1 hP 0 rfl rfl 0 (by decide) ⟨rfl, rfl, rfl⟩ mm_X4_here_3 rfl dX4_here_12 ?_
    refine lv_aload_n (pc := 15) hx hb dX4_here_15 rfl (lv_at hl 0 rfl) ?_
    refine g_get (v := .int (nI q)) (pc := 16) hx hb hts ii_X4_here_X4 hown hK.1 hP 0 rfl rfl 6 (by decide) ⟨rfl, rfl, rfl⟩ mm_X4_here_1 rfl dX4_here_16 ?_
    refine g_bald (j := q) (v := (b q)) (pc := 19) hx hb hK.1 hP 1 2 rfl rfl (vp_in_nI (by have := mt (nle (by omega) (by omega)).mpr c_1; omega) (by decide)) (nI_clamp (by omega)) rfl dX4_here_19 ?_
    refine lv_goto (tgt := 24) (pc := 20) hx hb dX4_here_20 (by decide) ?_
    have hfn : fX4_here b n q = b q := if_pos (by have := mt (nle (by omega) (by omega)).mpr c_1; omega)
    rw [hfn] at hQ
    exact hQ _ _ _ _ _ rfl hP hD hS dX4_here_24

abbrev rX4_skipBlanks : Room := { frames := 1, cells := 0, slots := 0, locals := 20 }
theorem mm_X4_skipBlanks_1 : Cond.fieldLink RX4 38 "GaugeBounds$Text" "place" "I" ∈ wsX4_skipBlanks := List.mem_of_getElem? (i := 1) rfl
theorem mm_X4_skipBlanks_2 : Cond.fieldLink RX4 25 "GaugeBounds$Text" "length" "I" ∈ wsX4_skipBlanks := List.mem_of_getElem? (i := 2) rfl
theorem ii_X4_skipBlanks_X4 : ∀ w ∈ wsX40, w ∈ wsX4_skipBlanks := fun _ h => List.mem_cons_of_mem _ (List.mem_append_right _ (h))
theorem qvX4_skipBlanks : yX4_skipBlanks.cls = RX4 ∧ yX4_skipBlanks.cls ≠ "java/lang/invoke/MethodHandle" ∧ yX4_skipBlanks.cls ≠ "java/lang/invoke/VarHandle" ∧ (parseMethodDescriptor yX4_skipBlanks.desc).map (fun d => d.parameters.length) = some 0 := by decide +kernel
set_option maxHeartbeats 4000000 in
set_option maxRecDepth 100000 in
theorem kX4_skipBlanks (l : Launch) (E : gEnv) (t : Nat → Nat) (n o q : Nat) (u : Int32) (b ks fs ss : Nat → Int32) (hn : n ≤ 120) (hq : q ≤ n) : gMv l E yX4_skipBlanks wsX4_skipBlanks rX4_skipBlanks [.ref (t 0)] (wTx E t n o q u b ks fs ss) (wTx E t n o (sk b n q) u b ks fs ss) := by
  refine gMv_of (cc := cX4_skipBlanks) (maxL := 1) (ret := none) (by decide) rfl rfl (Nat.le_of_ble_eq_true rfl) ?_
  intro p e s m args below meth c A Q ls hB hQ
  obtain ⟨hx, hb, hml, hown, hts, hK, hP, hD, hA, hS, hl⟩ := hB
  have hown : s.vm.findClass RX4 = some m.cls := hown
  have hP : va_P E.1 vwCl [(t 0, .inr (4, [.ref (t 1), .int (nI n), .ref (t 2), .ref (t 3), .ref (t 4), .int (nI o), .int (nI q), .int u])), (t 1, .inl (eB E, 120, .inl b)), (t 2, .inl (eI E, 40, .inl ks)), (t 3, .inl (eI E, 40, .inl fs)), (t 4, .inl (eI E, 40, .inl ss))] s.heap := hP
  have hD : va_D A [(t 0, .inr (4, [.ref (t 1), .int (nI n), .ref (t 2), .ref (t 3), .ref (t 4), .int (nI o), .int (nI q), .int u])), (t 1, .inl (eB E, 120, .inl b)), (t 2, .inl (eI E, 40, .inl ks)), (t 3, .inl (eI E, 40, .inl fs)), (t 4, .inl (eI E, 40, .inl ss))] := hD
  have hl : lv_has ls 1 [(0, .ref (t 0))] := hl
  have loop : ∀ (f k : Nat), k + f = n → skF b f k = sk b n q → ∀ (H : Heap) (locs : List Loc) (ls : Array Slot), va_P E.1 vwCl [(t 0, .inr (4, [.ref (t 1), .int (nI n), .ref (t 2), .ref (t 3), .ref (t 4), .int (nI o), .int (nI k), .int u])), (t 1, .inl (eB E, 120, .inl b)), (t 2, .inl (eI E, 40, .inl ks)), (t 3, .inl (eI E, 40, .inl fs)), (t 4, .inl (eI E, 40, .inl ss))] H → va_D A [(t 0, .inr (4, [.ref (t 1), .int (nI n), .ref (t 2), .ref (t 3), .ref (t 4), .int (nI o), .int (nI k), .int u])), (t 1, .inl (eB E, 120, .inl b)), (t 2, .inl (eI E, 40, .inl ks)), (t 3, .inl (eI E, 40, .inl fs)), (t 4, .inl (eI E, 40, .inl ss))] → va_S A s.heap H locs → lv_has ls 1 [(0, .ref (t 0))] → W p l e rX4_skipBlanks s m args below meth c H locs 0 0 Q (F0 m 0 ls []) := by
    intro f
    induction f with
    | zero =>
      intro k hkn hk H locs ls hP hD hS hl
      obtain rfl : k = n := by omega
      refine lv_aload_n (pc := 0) hx hb dX4_skipBlanks_0 rfl (lv_at hl 0 rfl) ?_
      refine g_get (v := .int (nI k)) (pc := 1) hx hb hts ii_X4_skipBlanks_X4 hown hK.1 hP 0 rfl rfl 6 (by decide) ⟨rfl, rfl, rfl⟩ mm_X4_skipBlanks_1 rfl dX4_skipBlanks_1 ?_
      refine lv_aload_n (pc := 4) hx hb dX4_skipBlanks_4 rfl (lv_at hl 0 rfl) ?_
      refine g_get (v := .int (nI k)) (pc := 5) hx hb hts ii_X4_skipBlanks_X4 hown hK.1 hP 0 rfl rfl 1 (by decide) ⟨rfl, rfl, rfl⟩ mm_X4_skipBlanks_2 rfl dX4_skipBlanks_5 ?_
      refine lv_icmp_ge (tgt := 33) (pc := 8) hx hb dX4_skipBlanks_8 (by decide) (fun c_1 => ?_) (fun c_1 => ?_)
      rotate_left
      · exact absurd (nI_le (Nat.le_refl k) (by omega)) c_1
      have hfn : sk b k q = k := hk.symm
      rw [hfn] at hQ
      exact hQ _ _ _ _ hP hD hS dX4_skipBlanks_33
    | succ f ih =>
      intro k hkn hk H locs ls hP hD hS hl
      have hlt : k < n := by omega
      refine lv_aload_n (pc := 0) hx hb dX4_skipBlanks_0 rfl (lv_at hl 0 rfl) ?_
      refine g_get (v := .int (nI k)) (pc := 1) hx hb hts ii_X4_skipBlanks_X4 hown hK.1 hP 0 rfl rfl 6 (by decide) ⟨rfl, rfl, rfl⟩ mm_X4_skipBlanks_1 rfl dX4_skipBlanks_1 ?_
      refine lv_aload_n (pc := 4) hx hb dX4_skipBlanks_4 rfl (lv_at hl 0 rfl) ?_
      refine g_get (v := .int (nI n)) (pc := 5) hx hb hts ii_X4_skipBlanks_X4 hown hK.1 hP 0 rfl rfl 1 (by decide) ⟨rfl, rfl, rfl⟩ mm_X4_skipBlanks_2 rfl dX4_skipBlanks_5 ?_
      refine lv_icmp_ge (tgt := 33) (pc := 8) hx hb dX4_skipBlanks_8 (by decide) (fun c_2 => ?_) (fun c_2 => ?_)
      · exact absurd c_2 (nI_ge hlt (by omega))
      refine lv_aload_n (pc := 11) hx hb dX4_skipBlanks_11 rfl (lv_at hl 0 rfl) ?_
      obtain ⟨r3, er3⟩ : ∃ z : Int32, fX4_here b n k = z := ⟨_, rfl⟩
      have hr3 := kX4_here l E t n o k u b ks fs ss hn (Nat.le_of_lt hlt)
      rw [er3] at hr3
      refine gcVi (pc := 12) (w1 := [(t 0, .inr (4, [.ref (t 1), .int (nI n), .ref (t 2), .ref (t 3), .ref (t 4), .int (nI o), .int (nI k), .int u])), (t 1, .inl (eB E, 120, .inl b)), (t 2, .inl (eI E, 40, .inl ks)), (t 3, .inl (eI E, 40, .inl fs)), (t 4, .inl (eI E, 40, .inl ss))]) (pre := []) (post := []) (As := []) (rest := []) (q0 := 0) ⟨hx, hb, hml, hown, hts⟩ hr3 (cwV 0 hts gX4_skipBlanks_X4_here rfl rfl rfl qvX4_here ⟨Nat.le_of_ble_eq_true rfl, Nat.le_of_ble_eq_true rfl⟩) hK hP hD hS hA rfl rfl rfl rfl rfl hl.1 rfl (Nat.le_of_ble_eq_true rfl) dX4_skipBlanks_12 ⟨Nat.zero_le _, Nat.zero_le _⟩ (fun H locs hP hD hS => ?_)
      refine lv_bipush (v := 32) (pc := 15) hx hb dX4_skipBlanks_15 rfl ?_
      refine lv_icmp_ne (tgt := 33) (pc := 17) hx hb dX4_skipBlanks_17 (by decide) (fun c_4 => ?_) (fun c_4 => ?_)
      · subst er3
        rw [show fX4_here b n k = b k from if_pos hlt] at c_4
        have hfn : sk b n q = k := hk.symm.trans (if_neg c_4)
        rw [hfn] at hQ
        exact hQ _ _ _ _ hP hD hS dX4_skipBlanks_33
      · refine lv_aload_n (pc := 20) hx hb dX4_skipBlanks_20 rfl (lv_at hl 0 rfl) ?_
        refine lv_dup (pc := 21) hx hb dX4_skipBlanks_21 rfl ?_
        refine g_get (v := .int (nI k)) (pc := 22) hx hb hts ii_X4_skipBlanks_X4 hown hK.1 hP 0 rfl rfl 6 (by decide) ⟨rfl, rfl, rfl⟩ mm_X4_skipBlanks_1 rfl dX4_skipBlanks_22 ?_
        refine lv_iconst (v := 1) (pc := 25) hx hb dX4_skipBlanks_25 rfl ?_
        refine lv_iadd (pc := 26) hx hb dX4_skipBlanks_26 ?_
        rw [nI_1 k]
        refine g_put (w1 := [(t 0, .inr (4, [.ref (t 1), .int (nI n), .ref (t 2), .ref (t 3), .ref (t 4), .int (nI o), .int (nI (k + 1)), .int u])), (t 1, .inl (eB E, 120, .inl b)), (t 2, .inl (eI E, 40, .inl ks)), (t 3, .inl (eI E, 40, .inl fs)), (t 4, .inl (eI E, 40, .inl ss))]) (pc := 27) hx hb hts ii_X4_skipBlanks_X4 tyX4 tyX4_ok nmX4 hown hK.1 hP hD hS 0 rfl rfl 6 (by decide) ⟨rfl, rfl, rfl⟩ mm_X4_skipBlanks_1 rfl rfl rfl rfl (Nat.le_of_ble_eq_true rfl) rfl dX4_skipBlanks_27 (fun H locs hP hD hS => ?_)
        refine lv_goto (tgt := 0) (pc := 30) hx hb dX4_skipBlanks_30 (by decide) ?_
        subst er3
        rw [show fX4_here b n k = b k from if_pos hlt] at c_4
        exact ih (k + 1) (by omega) ((show skF b (f + 1) k = skF b f (k + 1) from if_pos c_4).symm.trans hk) _ _ _ hP hD hS (lv_sub hl [0] rfl)
  exact loop (n - q) q (by omega) rfl _ _ _ hP hD hS (lv_sub hl [0] rfl)

def dgE (b : Nat → Int32) (n : Nat) (ng : Int32) (k : Nat) (v : Int32) : Int32 × (Nat × Int32) := (if fX4_isFigure (fX4_here b n k) = 0 then 1 else 0, (k, if ng = 0 then v else -v))
def dgT (b : Nat → Int32) (n : Nat) (ng : Int32) : Nat → Nat → Int32 → Int32 × (Nat × Int32)
  | 0, k, v => dgE b n ng k v
  | f + 1, k, v => if fX4_isFigure (fX4_here b n k) = 0 then dgE b n ng k v else dgT b n ng f (k + 1) ((10 * v) + fX4_here b n k - 48)
theorem dgE_le {b : Nat → Int32} {n : Nat} {ng : Int32} {k : Nat} {v : Int32} (h : k ≤ n) : (dgE b n ng k v).2.1 ≤ n ∧ k ≤ (dgE b n ng k v).2.1 ∧ ((dgE b n ng k v).1 = 0 ∨ (dgE b n ng k v).1 = 1) := by
  refine ⟨h, Nat.le_refl _, ?_⟩
  unfold dgE
  by_cases h : fX4_isFigure (fX4_here b n k) = 0
  · right; exact if_pos h
  · left; exact if_neg h
theorem dgT_le {b : Nat → Int32} {n : Nat} {ng : Int32} : ∀ (f k : Nat) (v : Int32), k ≤ n → (dgT b n ng f k v).2.1 ≤ n ∧ k ≤ (dgT b n ng f k v).2.1 ∧ ((dgT b n ng f k v).1 = 0 ∨ (dgT b n ng f k v).1 = 1)
  | 0, k, v, h => dgE_le h
  | f + 1, k, v, h => by
    by_cases c : fX4_isFigure (fX4_here b n k) = 0
    · rw [show dgT b n ng (f + 1) k v = dgE b n ng k v from if_pos c]; exact dgE_le h
    · rw [show dgT b n ng (f + 1) k v = dgT b n ng f (k + 1) ((10 * v) + fX4_here b n k - 48) from if_neg c]
      have := dgT_le (b := b) (ng := ng) f (k + 1) ((10 * v) + fX4_here b n k - 48) (fg_lt c)
      exact ⟨this.1, by omega, this.2.2⟩

def fX4_readNumber (b : Nat → Int32) (n q : Nat) (u : Int32) (sg : Int32) : Int32 × (Nat × Int32) :=
  if sg = 0 then
    let r4 : Int32 := fX4_here b n (sk b n q)
    let r5 : Int32 := fX4_isFigure r4
    if r5 = 0 then
      (0, (sk b n q, u))
    else
      dgT b n 0 4 (sk b n q) 0
  else
    let r22 : Int32 := fX4_here b n (sk b n q)
    if r22 = 45 then
      let r44 : Int32 := fX4_here b n (sk b n q + 1)
      let r45 : Int32 := fX4_isFigure r44
      if r45 = 0 then
        (0, (sk b n q + 1, u))
      else
        dgT b n 1 4 (sk b n q + 1) 0
    else
      let r25 : Int32 := fX4_here b n (sk b n q)
      let r26 : Int32 := fX4_isFigure r25
      if r26 = 0 then
        (0, (sk b n q, u))
      else
        dgT b n 0 4 (sk b n q) 0
theorem rn_le {b : Nat → Int32} {n q : Nat} {u sg : Int32} (hq : q ≤ n) : (fX4_readNumber b n q u sg).2.1 ≤ n ∧ q ≤ (fX4_readNumber b n q u sg).2.1 ∧ ((fX4_readNumber b n q u sg).1 = 0 ∨ (fX4_readNumber b n q u sg).1 = 1) := by
  have h1 : sk b n q ≤ n := sk_le hq
  have h0 := sk_ge b n q
  have key : ∀ (ng : Int32) (k : Nat), q ≤ k → k ≤ n → ∀ z : Int32 × (Nat × Int32), (z = (0, (k, u)) ∨ z = dgT b n ng 4 k 0) → z.2.1 ≤ n ∧ q ≤ z.2.1 ∧ (z.1 = 0 ∨ z.1 = 1) := by
    intro ng k hk0 hk z hz
    rcases hz with rfl | rfl
    · exact ⟨hk, hk0, Or.inl rfl⟩
    · have := dgT_le (b := b) (ng := ng) 4 k 0 hk
      exact ⟨this.1, by omega, this.2.2⟩
  unfold fX4_readNumber
  simp only []
  by_cases c1 : sg = 0
  · rw [if_pos c1]
    refine key 0 (sk b n q) h0 h1 _ ?_
    by_cases c2 : fX4_isFigure (fX4_here b n (sk b n q)) = 0
    · rw [if_pos c2]; exact Or.inl rfl
    · rw [if_neg c2]; exact Or.inr rfl
  · rw [if_neg c1]
    by_cases c3 : fX4_here b n (sk b n q) = 45
    · rw [if_pos c3]
      refine key 1 (sk b n q + 1) (by omega) (hr_lt (fun z => absurd (c3.symm.trans z) (by decide))) _ ?_
      by_cases c2 : fX4_isFigure (fX4_here b n (sk b n q + 1)) = 0
      · rw [if_pos c2]; exact Or.inl rfl
      · rw [if_neg c2]; exact Or.inr rfl
    · rw [if_neg c3]
      refine key 0 (sk b n q) h0 h1 _ ?_
      by_cases c2 : fX4_isFigure (fX4_here b n (sk b n q)) = 0
      · rw [if_pos c2]; exact Or.inl rfl
      · rw [if_neg c2]; exact Or.inr rfl
abbrev rX4_readNumber : Room := { frames := 2, cells := 0, slots := 0, locals := 40 }
theorem mm_X4_readNumber_2 : Cond.fieldLink RX4 60 "GaugeBounds$Text" "number" "I" ∈ wsX4_readNumber := List.mem_of_getElem? (i := 2) rfl
theorem mm_X4_readNumber_1 : Cond.fieldLink RX4 38 "GaugeBounds$Text" "place" "I" ∈ wsX4_readNumber := List.mem_of_getElem? (i := 1) rfl
theorem ii_X4_readNumber_X4 : ∀ w ∈ wsX40, w ∈ wsX4_readNumber := fun _ h => List.mem_cons_of_mem _ (List.mem_append_right _ (h))
theorem qvX4_readNumber : yX4_readNumber.cls = RX4 ∧ yX4_readNumber.cls ≠ "java/lang/invoke/MethodHandle" ∧ yX4_readNumber.cls ≠ "java/lang/invoke/VarHandle" ∧ (parseMethodDescriptor yX4_readNumber.desc).map (fun d => d.parameters.length) = some 1 := by decide +kernel
set_option maxHeartbeats 4000000 in
set_option maxRecDepth 100000 in
theorem kX4_readNumber (l : Launch) (E : gEnv) (t : Nat → Nat) (n o q : Nat) (u : Int32) (b ks fs ss : Nat → Int32) (sg : Int32) (hn : n ≤ 120) (hq : q ≤ n) : gMi l E yX4_readNumber wsX4_readNumber rX4_readNumber [.ref (t 0), .int sg] (wTx E t n o q u b ks fs ss) (fX4_readNumber b n q u sg).1 (wTx E t n o ((fX4_readNumber b n q u sg).2.1) ((fX4_readNumber b n q u sg).2.2) b ks fs ss) := by
  refine gMz_of (cc := cX4_readNumber) (maxL := 5) (ret := (some .boolean)) (by decide) rfl rfl (Nat.le_of_ble_eq_true rfl) (zb (rn_le (u := u) (sg := sg) hq).2.2) ?_
  intro p e s m args below meth c A Q ls hB hQ
  obtain ⟨hx, hb, hml, hown, hts, hK, hP, hD, hA, hS, hl⟩ := hB
  have hown : s.vm.findClass RX4 = some m.cls := hown
  have hP : va_P E.1 vwCl [(t 0, .inr (4, [.ref (t 1), .int (nI n), .ref (t 2), .ref (t 3), .ref (t 4), .int (nI o), .int (nI q), .int u])), (t 1, .inl (eB E, 120, .inl b)), (t 2, .inl (eI E, 40, .inl ks)), (t 3, .inl (eI E, 40, .inl fs)), (t 4, .inl (eI E, 40, .inl ss))] s.heap := hP
  have hD : va_D A [(t 0, .inr (4, [.ref (t 1), .int (nI n), .ref (t 2), .ref (t 3), .ref (t 4), .int (nI o), .int (nI q), .int u])), (t 1, .inl (eB E, 120, .inl b)), (t 2, .inl (eI E, 40, .inl ks)), (t 3, .inl (eI E, 40, .inl fs)), (t 4, .inl (eI E, 40, .inl ss))] := hD
  have hl : lv_has ls 5 [(0, .ref (t 0)), (1, .int sg)] := hl
  refine lv_aload_n (pc := 0) hx hb dX4_readNumber_0 rfl (lv_at hl 0 rfl) ?_
  have hr1 := kX4_skipBlanks l E t n o q u b ks fs ss hn hq
  refine gcVv (pc := 1) (w1 := [(t 0, .inr (4, [.ref (t 1), .int (nI n), .ref (t 2), .ref (t 3), .ref (t 4), .int (nI o), .int (nI (sk b n q)), .int u])), (t 1, .inl (eB E, 120, .inl b)), (t 2, .inl (eI E, 40, .inl ks)), (t 3, .inl (eI E, 40, .inl fs)), (t 4, .inl (eI E, 40, .inl ss))]) (pre := []) (post := []) (As := []) (rest := []) (q0 := 0) ⟨hx, hb, hml, hown, hts⟩ hr1 (cwV 0 hts gX4_readNumber_X4_skipBlanks rfl rfl rfl qvX4_skipBlanks ⟨Nat.le_of_ble_eq_true rfl, Nat.le_of_ble_eq_true rfl⟩) hK hP hD hS hA rfl rfl rfl rfl rfl hl.1 rfl (Nat.le_of_ble_eq_true rfl) dX4_readNumber_1 ⟨Nat.zero_le _, Nat.zero_le _⟩ (fun H locs hP hD hS => ?_)
  refine lv_iload_n (pc := 4) hx hb dX4_readNumber_4 rfl (lv_at hl 1 rfl) ?_
  refine lv_if_eq (tgt := 21) (pc := 5) hx hb dX4_readNumber_5 (by decide) (fun c_2 => ?_) (fun c_2 => ?_)
  · refine lv_iconst (v := 0) (pc := 21) hx hb dX4_readNumber_21 rfl ?_
    refine lv_istore_n (lv' := [(2, .int 0), (0, .ref (t 0)), (1, .int sg)]) (pc := 22) hx hb dX4_readNumber_22 rfl hl (by decide) rfl (fun ls hl => ?_)
    refine lv_iload_n (pc := 23) hx hb dX4_readNumber_23 rfl (lv_at hl 0 rfl) ?_
    refine lv_if_eq (tgt := 37) (pc := 24) hx hb dX4_readNumber_24 (by decide) (fun c_3 => ?_) (fun c_3 => ?_)
    rotate_left
    · exact absurd (by decide) c_3
    refine lv_aload_n (pc := 37) hx hb dX4_readNumber_37 rfl (lv_at hl 1 rfl) ?_
    obtain ⟨r4, er4⟩ : ∃ z : Int32, fX4_here b n (sk b n q) = z := ⟨_, rfl⟩
    have hr4 := kX4_here l E t n o (sk b n q) u b ks fs ss hn (sk_le hq)
    rw [er4] at hr4
    refine gcVi (pc := 38) (w1 := [(t 0, .inr (4, [.ref (t 1), .int (nI n), .ref (t 2), .ref (t 3), .ref (t 4), .int (nI o), .int (nI (sk b n q)), .int u])), (t 1, .inl (eB E, 120, .inl b)), (t 2, .inl (eI E, 40, .inl ks)), (t 3, .inl (eI E, 40, .inl fs)), (t 4, .inl (eI E, 40, .inl ss))]) (pre := []) (post := []) (As := []) (rest := []) (q0 := 0) ⟨hx, hb, hml, hown, hts⟩ hr4 (cwV 0 hts gX4_readNumber_X4_here rfl rfl rfl qvX4_here ⟨Nat.le_of_ble_eq_true rfl, Nat.le_of_ble_eq_true rfl⟩) hK hP hD hS hA rfl rfl rfl rfl rfl hl.1 rfl (Nat.le_of_ble_eq_true rfl) dX4_readNumber_38 ⟨Nat.zero_le _, Nat.zero_le _⟩ (fun H locs hP hD hS => ?_)
    obtain ⟨r5, er5⟩ : ∃ z : Int32, fX4_isFigure r4 = z := ⟨_, rfl⟩
    have hr5 := kX4_isFigure l E r4
    rw [er5] at hr5
    refine gcSi (pc := 41) (As := [.int r4]) (rest := []) ⟨hx, hb, hml, hown, hts⟩ hr5 (cwS 1 hts gX4_readNumber_X4_isFigure rfl rfl rfl qsX4_isFigure ⟨Nat.le_of_ble_eq_true rfl, Nat.le_of_ble_eq_true rfl⟩) hK hP hD hS hA rfl hl.1 rfl (Nat.le_of_ble_eq_true rfl) dX4_readNumber_41 ⟨Nat.zero_le _, Nat.zero_le _⟩ (fun H locs hP hD hS => ?_)
    refine lv_if_ne (tgt := 49) (pc := 44) hx hb dX4_readNumber_44 (by decide) (fun c_6 => ?_) (fun c_6 => ?_)
    · refine lv_iconst (v := 0) (pc := 49) hx hb dX4_readNumber_49 rfl ?_
      refine lv_istore_n (lv' := [(3, .int 0), (2, .int 0), (0, .ref (t 0)), (1, .int sg)]) (pc := 50) hx hb dX4_readNumber_50 rfl hl (by decide) rfl (fun ls hl => ?_)
      refine lv_iconst (v := 0) (pc := 51) hx hb dX4_readNumber_51 rfl ?_
      refine lv_istore (lv' := [(4, .int 0), (3, .int 0), (2, .int 0), (0, .ref (t 0)), (1, .int sg)]) (pc := 52) hx hb dX4_readNumber_52 hl (by decide) rfl (fun ls hl => ?_)
      have hq2 : sk b n q ≤ n := (sk_le hq)
      subst er5
      subst er4
      have hfn : fX4_readNumber b n q u sg = dgT b n 0 4 (sk b n q) 0 := (if_pos c_2).trans (if_neg c_6)
      rw [hfn] at hQ
      have loop : ∀ (f i k : Nat) (v : Int32), i + f = 4 → k ≤ n → dgT b n 0 f k v = dgT b n 0 4 (sk b n q) 0 → ∀ (H : Heap) (locs : List Loc) (ls : Array Slot), va_P E.1 vwCl [(t 0, .inr (4, [.ref (t 1), .int (nI n), .ref (t 2), .ref (t 3), .ref (t 4), .int (nI o), .int (nI k), .int u])), (t 1, .inl (eB E, 120, .inl b)), (t 2, .inl (eI E, 40, .inl ks)), (t 3, .inl (eI E, 40, .inl fs)), (t 4, .inl (eI E, 40, .inl ss))] H → va_D A [(t 0, .inr (4, [.ref (t 1), .int (nI n), .ref (t 2), .ref (t 3), .ref (t 4), .int (nI o), .int (nI k), .int u])), (t 1, .inl (eB E, 120, .inl b)), (t 2, .inl (eI E, 40, .inl ks)), (t 3, .inl (eI E, 40, .inl fs)), (t 4, .inl (eI E, 40, .inl ss))] → va_S A s.heap H locs → lv_has ls 5 [(0, .ref (t 0)), (1, .int sg), (2, .int 0), (3, .int v), (4, .int (nI i))] → W p l e rX4_readNumber s m args below meth c H locs 0 0 Q (F0 m 54 ls []) := by
        intro f
        induction f with
        | zero =>
          intro i k v hi hkn hk H locs ls hP hD hS hl
          obtain rfl : i = 4 := by omega
          refine lv_iload (pc := 54) hx hb dX4_readNumber_54 (lv_at hl 4 rfl) ?_
          refine lv_iconst (v := 4) (pc := 56) hx hb dX4_readNumber_56 rfl ?_
          refine lv_icmp_ge (tgt := 99) (pc := 57) hx hb dX4_readNumber_57 (by decide) (fun c_7 => ?_) (fun c_7 => ?_)
          rotate_left
          · exact absurd (nI_le (a := 4) (b := 4) (by decide) (by decide)) c_7
          refine lv_aload_n (pc := 99) hx hb dX4_readNumber_99 rfl (lv_at hl 0 rfl) ?_
          refine lv_iload_n (pc := 100) hx hb dX4_readNumber_100 rfl (lv_at hl 2 rfl) ?_
          refine lv_if_eq (tgt := 109) (pc := 101) hx hb dX4_readNumber_101 (by decide) (fun c_8 => ?_) (fun c_8 => ?_)
          rotate_left
          · exact absurd (by decide) c_8
          refine lv_iload_n (pc := 109) hx hb dX4_readNumber_109 rfl (lv_at hl 3 rfl) ?_
          refine g_put (w1 := [(t 0, .inr (4, [.ref (t 1), .int (nI n), .ref (t 2), .ref (t 3), .ref (t 4), .int (nI o), .int (nI k), .int v])), (t 1, .inl (eB E, 120, .inl b)), (t 2, .inl (eI E, 40, .inl ks)), (t 3, .inl (eI E, 40, .inl fs)), (t 4, .inl (eI E, 40, .inl ss))]) (pc := 110) hx hb hts ii_X4_readNumber_X4 tyX4 tyX4_ok nmX4 hown hK.1 hP hD hS 0 rfl rfl 7 (by decide) ⟨rfl, rfl, rfl⟩ mm_X4_readNumber_2 rfl rfl rfl rfl (Nat.le_of_ble_eq_true rfl) rfl dX4_readNumber_110 (fun H locs hP hD hS => ?_)
          refine lv_aload_n (pc := 113) hx hb dX4_readNumber_113 rfl (lv_at hl 0 rfl) ?_
          obtain ⟨r9, er9⟩ : ∃ z : Int32, fX4_here b n k = z := ⟨_, rfl⟩
          have hr9 := kX4_here l E t n o k v b ks fs ss hn hkn
          rw [er9] at hr9
          refine gcVi (pc := 114) (w1 := [(t 0, .inr (4, [.ref (t 1), .int (nI n), .ref (t 2), .ref (t 3), .ref (t 4), .int (nI o), .int (nI k), .int v])), (t 1, .inl (eB E, 120, .inl b)), (t 2, .inl (eI E, 40, .inl ks)), (t 3, .inl (eI E, 40, .inl fs)), (t 4, .inl (eI E, 40, .inl ss))]) (pre := []) (post := []) (As := []) (rest := []) (q0 := 0) ⟨hx, hb, hml, hown, hts⟩ hr9 (cwV 0 hts gX4_readNumber_X4_here rfl rfl rfl qvX4_here ⟨Nat.le_of_ble_eq_true rfl, Nat.le_of_ble_eq_true rfl⟩) hK hP hD hS hA rfl rfl rfl rfl rfl hl.1 rfl (Nat.le_of_ble_eq_true rfl) dX4_readNumber_114 ⟨Nat.zero_le _, Nat.zero_le _⟩ (fun H locs hP hD hS => ?_)
          obtain ⟨r10, er10⟩ : ∃ z : Int32, fX4_isFigure r9 = z := ⟨_, rfl⟩
          have hr10 := kX4_isFigure l E r9
          rw [er10] at hr10
          refine gcSi (pc := 117) (As := [.int r9]) (rest := []) ⟨hx, hb, hml, hown, hts⟩ hr10 (cwS 1 hts gX4_readNumber_X4_isFigure rfl rfl rfl qsX4_isFigure ⟨Nat.le_of_ble_eq_true rfl, Nat.le_of_ble_eq_true rfl⟩) hK hP hD hS hA rfl hl.1 rfl (Nat.le_of_ble_eq_true rfl) dX4_readNumber_117 ⟨Nat.zero_le _, Nat.zero_le _⟩ (fun H locs hP hD hS => ?_)
          refine lv_if_ne (tgt := 127) (pc := 120) hx hb dX4_readNumber_120 (by decide) (fun c_11 => ?_) (fun c_11 => ?_)
          · refine lv_iconst (v := 0) (pc := 127) hx hb dX4_readNumber_127 rfl ?_
            subst er10
            subst er9
            have hfn2 : dgT b n 0 4 (sk b n q) 0 = (0, (k, if (0 : Int32) = 0 then v else -v)) := hk.symm.trans ((Prod.ext (if_neg c_11) rfl))
            rw [hfn2] at hQ
            exact hQ _ _ _ _ _ rfl hP hD hS dX4_readNumber_128
          · refine lv_iconst (v := 1) (pc := 123) hx hb dX4_readNumber_123 rfl ?_
            refine lv_goto (tgt := 128) (pc := 124) hx hb dX4_readNumber_124 (by decide) ?_
            subst er10
            subst er9
            have hfn2 : dgT b n 0 4 (sk b n q) 0 = (1, (k, if (0 : Int32) = 0 then v else -v)) := hk.symm.trans ((Prod.ext (if_pos c_11) rfl))
            rw [hfn2] at hQ
            exact hQ _ _ _ _ _ rfl hP hD hS dX4_readNumber_128
        | succ f ih =>
          intro i k v hi hkn hk H locs ls hP hD hS hl
          have hlt : i < 4 := by omega
          refine lv_iload (pc := 54) hx hb dX4_readNumber_54 (lv_at hl 4 rfl) ?_
          refine lv_iconst (v := 4) (pc := 56) hx hb dX4_readNumber_56 rfl ?_
          refine lv_icmp_ge (tgt := 99) (pc := 57) hx hb dX4_readNumber_57 (by decide) (fun c_12 => ?_) (fun c_12 => ?_)
          · exact absurd c_12 (nI_ge (a := i) (b := 4) hlt (by decide))
          refine lv_aload_n (pc := 60) hx hb dX4_readNumber_60 rfl (lv_at hl 0 rfl) ?_
          obtain ⟨r13, er13⟩ : ∃ z : Int32, fX4_here b n k = z := ⟨_, rfl⟩
          have hr13 := kX4_here l E t n o k u b ks fs ss hn hkn
          rw [er13] at hr13
          refine gcVi (pc := 61) (w1 := [(t 0, .inr (4, [.ref (t 1), .int (nI n), .ref (t 2), .ref (t 3), .ref (t 4), .int (nI o), .int (nI k), .int u])), (t 1, .inl (eB E, 120, .inl b)), (t 2, .inl (eI E, 40, .inl ks)), (t 3, .inl (eI E, 40, .inl fs)), (t 4, .inl (eI E, 40, .inl ss))]) (pre := []) (post := []) (As := []) (rest := []) (q0 := 0) ⟨hx, hb, hml, hown, hts⟩ hr13 (cwV 0 hts gX4_readNumber_X4_here rfl rfl rfl qvX4_here ⟨Nat.le_of_ble_eq_true rfl, Nat.le_of_ble_eq_true rfl⟩) hK hP hD hS hA rfl rfl rfl rfl rfl hl.1 rfl (Nat.le_of_ble_eq_true rfl) dX4_readNumber_61 ⟨Nat.zero_le _, Nat.zero_le _⟩ (fun H locs hP hD hS => ?_)
          obtain ⟨r14, er14⟩ : ∃ z : Int32, fX4_isFigure r13 = z := ⟨_, rfl⟩
          have hr14 := kX4_isFigure l E r13
          rw [er14] at hr14
          refine gcSi (pc := 64) (As := [.int r13]) (rest := []) ⟨hx, hb, hml, hown, hts⟩ hr14 (cwS 1 hts gX4_readNumber_X4_isFigure rfl rfl rfl qsX4_isFigure ⟨Nat.le_of_ble_eq_true rfl, Nat.le_of_ble_eq_true rfl⟩) hK hP hD hS hA rfl hl.1 rfl (Nat.le_of_ble_eq_true rfl) dX4_readNumber_64 ⟨Nat.zero_le _, Nat.zero_le _⟩ (fun H locs hP hD hS => ?_)
          refine lv_if_eq (tgt := 99) (pc := 67) hx hb dX4_readNumber_67 (by decide) (fun c_15 => ?_) (fun c_15 => ?_)
          · refine lv_aload_n (pc := 99) hx hb dX4_readNumber_99 rfl (lv_at hl 0 rfl) ?_
            refine lv_iload_n (pc := 100) hx hb dX4_readNumber_100 rfl (lv_at hl 2 rfl) ?_
            refine lv_if_eq (tgt := 109) (pc := 101) hx hb dX4_readNumber_101 (by decide) (fun c_16 => ?_) (fun c_16 => ?_)
            rotate_left
            · exact absurd (by decide) c_16
            refine lv_iload_n (pc := 109) hx hb dX4_readNumber_109 rfl (lv_at hl 3 rfl) ?_
            refine g_put (w1 := [(t 0, .inr (4, [.ref (t 1), .int (nI n), .ref (t 2), .ref (t 3), .ref (t 4), .int (nI o), .int (nI k), .int v])), (t 1, .inl (eB E, 120, .inl b)), (t 2, .inl (eI E, 40, .inl ks)), (t 3, .inl (eI E, 40, .inl fs)), (t 4, .inl (eI E, 40, .inl ss))]) (pc := 110) hx hb hts ii_X4_readNumber_X4 tyX4 tyX4_ok nmX4 hown hK.1 hP hD hS 0 rfl rfl 7 (by decide) ⟨rfl, rfl, rfl⟩ mm_X4_readNumber_2 rfl rfl rfl rfl (Nat.le_of_ble_eq_true rfl) rfl dX4_readNumber_110 (fun H locs hP hD hS => ?_)
            refine lv_aload_n (pc := 113) hx hb dX4_readNumber_113 rfl (lv_at hl 0 rfl) ?_
            obtain ⟨r17, er17⟩ : ∃ z : Int32, fX4_here b n k = z := ⟨_, rfl⟩
            have hr17 := kX4_here l E t n o k v b ks fs ss hn hkn
            rw [er17] at hr17
            refine gcVi (pc := 114) (w1 := [(t 0, .inr (4, [.ref (t 1), .int (nI n), .ref (t 2), .ref (t 3), .ref (t 4), .int (nI o), .int (nI k), .int v])), (t 1, .inl (eB E, 120, .inl b)), (t 2, .inl (eI E, 40, .inl ks)), (t 3, .inl (eI E, 40, .inl fs)), (t 4, .inl (eI E, 40, .inl ss))]) (pre := []) (post := []) (As := []) (rest := []) (q0 := 0) ⟨hx, hb, hml, hown, hts⟩ hr17 (cwV 0 hts gX4_readNumber_X4_here rfl rfl rfl qvX4_here ⟨Nat.le_of_ble_eq_true rfl, Nat.le_of_ble_eq_true rfl⟩) hK hP hD hS hA rfl rfl rfl rfl rfl hl.1 rfl (Nat.le_of_ble_eq_true rfl) dX4_readNumber_114 ⟨Nat.zero_le _, Nat.zero_le _⟩ (fun H locs hP hD hS => ?_)
            obtain ⟨r18, er18⟩ : ∃ z : Int32, fX4_isFigure r17 = z := ⟨_, rfl⟩
            have hr18 := kX4_isFigure l E r17
            rw [er18] at hr18
            refine gcSi (pc := 117) (As := [.int r17]) (rest := []) ⟨hx, hb, hml, hown, hts⟩ hr18 (cwS 1 hts gX4_readNumber_X4_isFigure rfl rfl rfl qsX4_isFigure ⟨Nat.le_of_ble_eq_true rfl, Nat.le_of_ble_eq_true rfl⟩) hK hP hD hS hA rfl hl.1 rfl (Nat.le_of_ble_eq_true rfl) dX4_readNumber_117 ⟨Nat.zero_le _, Nat.zero_le _⟩ (fun H locs hP hD hS => ?_)
            refine lv_if_ne (tgt := 127) (pc := 120) hx hb dX4_readNumber_120 (by decide) (fun c_19 => ?_) (fun c_19 => ?_)
            · refine lv_iconst (v := 0) (pc := 127) hx hb dX4_readNumber_127 rfl ?_
              subst er18
              subst er17
              subst er14
              subst er13
              have hfn2 : dgT b n 0 4 (sk b n q) 0 = (0, (k, if (0 : Int32) = 0 then v else -v)) := hk.symm.trans ((show dgT b n 0 (f + 1) k v = dgE b n 0 k v from if_pos c_15).trans (Prod.ext (if_neg c_19) rfl))
              rw [hfn2] at hQ
              exact hQ _ _ _ _ _ rfl hP hD hS dX4_readNumber_128
            · refine lv_iconst (v := 1) (pc := 123) hx hb dX4_readNumber_123 rfl ?_
              refine lv_goto (tgt := 128) (pc := 124) hx hb dX4_readNumber_124 (by decide) ?_
              subst er18
              subst er17
              subst er14
              subst er13
              have hfn2 : dgT b n 0 4 (sk b n q) 0 = (1, (k, if (0 : Int32) = 0 then v else -v)) := hk.symm.trans ((show dgT b n 0 (f + 1) k v = dgE b n 0 k v from if_pos c_15).trans (Prod.ext (if_pos c_19) rfl))
              rw [hfn2] at hQ
              exact hQ _ _ _ _ _ rfl hP hD hS dX4_readNumber_128
          · refine lv_bipush (v := 10) (pc := 70) hx hb dX4_readNumber_70 rfl ?_
            refine lv_iload_n (pc := 72) hx hb dX4_readNumber_72 rfl (lv_at hl 3 rfl) ?_
            refine lv_imul (pc := 73) hx hb dX4_readNumber_73 ?_
            refine lv_aload_n (pc := 74) hx hb dX4_readNumber_74 rfl (lv_at hl 0 rfl) ?_
            obtain ⟨r20, er20⟩ : ∃ z : Int32, fX4_here b n k = z := ⟨_, rfl⟩
            have hr20 := kX4_here l E t n o k u b ks fs ss hn hkn
            rw [er20] at hr20
            refine gcVi (pc := 75) (w1 := [(t 0, .inr (4, [.ref (t 1), .int (nI n), .ref (t 2), .ref (t 3), .ref (t 4), .int (nI o), .int (nI k), .int u])), (t 1, .inl (eB E, 120, .inl b)), (t 2, .inl (eI E, 40, .inl ks)), (t 3, .inl (eI E, 40, .inl fs)), (t 4, .inl (eI E, 40, .inl ss))]) (pre := []) (post := []) (As := []) (rest := [.int (10 * v)]) (q0 := 0) ⟨hx, hb, hml, hown, hts⟩ hr20 (cwV 0 hts gX4_readNumber_X4_here rfl rfl rfl qvX4_here ⟨Nat.le_of_ble_eq_true rfl, Nat.le_of_ble_eq_true rfl⟩) hK hP hD hS hA rfl rfl rfl rfl rfl hl.1 rfl (Nat.le_of_ble_eq_true rfl) dX4_readNumber_75 ⟨Nat.zero_le _, Nat.zero_le _⟩ (fun H locs hP hD hS => ?_)
            refine lv_iadd (pc := 78) hx hb dX4_readNumber_78 ?_
            refine lv_bipush (v := 48) (pc := 79) hx hb dX4_readNumber_79 rfl ?_
            refine lv_isub (pc := 81) hx hb dX4_readNumber_81 ?_
            refine g_topi (fun x21 ex21 => ?_)
            refine lv_istore_n (lv' := [(3, .int x21), (0, .ref (t 0)), (1, .int sg), (2, .int 0), (4, .int (nI i))]) (pc := 82) hx hb dX4_readNumber_82 rfl hl (by decide) rfl (fun ls hl => ?_)
            refine lv_aload_n (pc := 83) hx hb dX4_readNumber_83 rfl (lv_at hl 1 rfl) ?_
            refine lv_dup (pc := 84) hx hb dX4_readNumber_84 rfl ?_
            refine g_get (v := .int (nI k)) (pc := 85) hx hb hts ii_X4_readNumber_X4 hown hK.1 hP 0 rfl rfl 6 (by decide) ⟨rfl, rfl, rfl⟩ mm_X4_readNumber_1 rfl dX4_readNumber_85 ?_
            refine lv_iconst (v := 1) (pc := 88) hx hb dX4_readNumber_88 rfl ?_
            refine lv_iadd (pc := 89) hx hb dX4_readNumber_89 ?_
            rw [nI_1 k]
            refine g_put (w1 := [(t 0, .inr (4, [.ref (t 1), .int (nI n), .ref (t 2), .ref (t 3), .ref (t 4), .int (nI o), .int (nI (k + 1)), .int u])), (t 1, .inl (eB E, 120, .inl b)), (t 2, .inl (eI E, 40, .inl ks)), (t 3, .inl (eI E, 40, .inl fs)), (t 4, .inl (eI E, 40, .inl ss))]) (pc := 90) hx hb hts ii_X4_readNumber_X4 tyX4 tyX4_ok nmX4 hown hK.1 hP hD hS 0 rfl rfl 6 (by decide) ⟨rfl, rfl, rfl⟩ mm_X4_readNumber_1 rfl rfl rfl rfl (Nat.le_of_ble_eq_true rfl) rfl dX4_readNumber_90 (fun H locs hP hD hS => ?_)
            refine lv_iinc (v := nI (i + 1)) (lv' := [(4, .int (nI (i + 1))), (3, .int x21), (0, .ref (t 0)), (1, .int sg), (2, .int 0)]) (pc := 93) hx hb dX4_readNumber_93 hl (k := 4) rfl (nI_1 i) (by decide) rfl (fun ls hl => ?_)
            refine lv_goto (tgt := 54) (pc := 96) hx hb dX4_readNumber_96 (by decide) ?_
            subst ex21
            subst er20
            subst er14
            subst er13
            exact ih (i + 1) (k + 1) _ (by omega) (fg_lt c_15) ((show dgT b n 0 (f + 1) k v = dgT b n 0 f (k + 1) ((10 * v) + fX4_here b n k - 48) from if_neg c_15).symm.trans hk) _ _ _ hP hD hS (lv_sub hl [2, 3, 4, 1, 0] rfl)
      exact loop 4 0 (sk b n q) 0 (by decide) hq2 rfl _ _ _ hP hD hS (lv_sub hl [3, 4, 2, 1, 0] rfl)
    · refine lv_iconst (v := 0) (pc := 47) hx hb dX4_readNumber_47 rfl ?_
      subst er5
      subst er4
      have hfn : fX4_readNumber b n q u sg = _ := (if_pos c_2).trans (if_pos c_6)
      rw [hfn] at hQ
      exact hQ _ _ _ _ _ rfl hP hD hS dX4_readNumber_48
  · refine lv_aload_n (pc := 8) hx hb dX4_readNumber_8 rfl (lv_at hl 0 rfl) ?_
    obtain ⟨r22, er22⟩ : ∃ z : Int32, fX4_here b n (sk b n q) = z := ⟨_, rfl⟩
    have hr22 := kX4_here l E t n o (sk b n q) u b ks fs ss hn (sk_le hq)
    rw [er22] at hr22
    refine gcVi (pc := 9) (w1 := [(t 0, .inr (4, [.ref (t 1), .int (nI n), .ref (t 2), .ref (t 3), .ref (t 4), .int (nI o), .int (nI (sk b n q)), .int u])), (t 1, .inl (eB E, 120, .inl b)), (t 2, .inl (eI E, 40, .inl ks)), (t 3, .inl (eI E, 40, .inl fs)), (t 4, .inl (eI E, 40, .inl ss))]) (pre := []) (post := []) (As := []) (rest := []) (q0 := 0) ⟨hx, hb, hml, hown, hts⟩ hr22 (cwV 0 hts gX4_readNumber_X4_here rfl rfl rfl qvX4_here ⟨Nat.le_of_ble_eq_true rfl, Nat.le_of_ble_eq_true rfl⟩) hK hP hD hS hA rfl rfl rfl rfl rfl hl.1 rfl (Nat.le_of_ble_eq_true rfl) dX4_readNumber_9 ⟨Nat.zero_le _, Nat.zero_le _⟩ (fun H locs hP hD hS => ?_)
    refine lv_bipush (v := 45) (pc := 12) hx hb dX4_readNumber_12 rfl ?_
    refine lv_icmp_ne (tgt := 21) (pc := 14) hx hb dX4_readNumber_14 (by decide) (fun c_23 => ?_) (fun c_23 => ?_)
    · refine lv_iconst (v := 0) (pc := 21) hx hb dX4_readNumber_21 rfl ?_
      refine lv_istore_n (lv' := [(2, .int 0), (0, .ref (t 0)), (1, .int sg)]) (pc := 22) hx hb dX4_readNumber_22 rfl hl (by decide) rfl (fun ls hl => ?_)
      refine lv_iload_n (pc := 23) hx hb dX4_readNumber_23 rfl (lv_at hl 0 rfl) ?_
      refine lv_if_eq (tgt := 37) (pc := 24) hx hb dX4_readNumber_24 (by decide) (fun c_24 => ?_) (fun c_24 => ?_)
      rotate_left
      · exact absurd (by decide) c_24
      refine lv_aload_n (pc := 37) hx hb dX4_readNumber_37 rfl (lv_at hl 1 rfl) ?_
      obtain ⟨r25, er25⟩ : ∃ z : Int32, fX4_here b n (sk b n q) = z := ⟨_, rfl⟩
      have hr25 := kX4_here l E t n o (sk b n q) u b ks fs ss hn (sk_le hq)
      rw [er25] at hr25
      refine gcVi (pc := 38) (w1 := [(t 0, .inr (4, [.ref (t 1), .int (nI n), .ref (t 2), .ref (t 3), .ref (t 4), .int (nI o), .int (nI (sk b n q)), .int u])), (t 1, .inl (eB E, 120, .inl b)), (t 2, .inl (eI E, 40, .inl ks)), (t 3, .inl (eI E, 40, .inl fs)), (t 4, .inl (eI E, 40, .inl ss))]) (pre := []) (post := []) (As := []) (rest := []) (q0 := 0) ⟨hx, hb, hml, hown, hts⟩ hr25 (cwV 0 hts gX4_readNumber_X4_here rfl rfl rfl qvX4_here ⟨Nat.le_of_ble_eq_true rfl, Nat.le_of_ble_eq_true rfl⟩) hK hP hD hS hA rfl rfl rfl rfl rfl hl.1 rfl (Nat.le_of_ble_eq_true rfl) dX4_readNumber_38 ⟨Nat.zero_le _, Nat.zero_le _⟩ (fun H locs hP hD hS => ?_)
      obtain ⟨r26, er26⟩ : ∃ z : Int32, fX4_isFigure r25 = z := ⟨_, rfl⟩
      have hr26 := kX4_isFigure l E r25
      rw [er26] at hr26
      refine gcSi (pc := 41) (As := [.int r25]) (rest := []) ⟨hx, hb, hml, hown, hts⟩ hr26 (cwS 1 hts gX4_readNumber_X4_isFigure rfl rfl rfl qsX4_isFigure ⟨Nat.le_of_ble_eq_true rfl, Nat.le_of_ble_eq_true rfl⟩) hK hP hD hS hA rfl hl.1 rfl (Nat.le_of_ble_eq_true rfl) dX4_readNumber_41 ⟨Nat.zero_le _, Nat.zero_le _⟩ (fun H locs hP hD hS => ?_)
      refine lv_if_ne (tgt := 49) (pc := 44) hx hb dX4_readNumber_44 (by decide) (fun c_27 => ?_) (fun c_27 => ?_)
      · refine lv_iconst (v := 0) (pc := 49) hx hb dX4_readNumber_49 rfl ?_
        refine lv_istore_n (lv' := [(3, .int 0), (2, .int 0), (0, .ref (t 0)), (1, .int sg)]) (pc := 50) hx hb dX4_readNumber_50 rfl hl (by decide) rfl (fun ls hl => ?_)
        refine lv_iconst (v := 0) (pc := 51) hx hb dX4_readNumber_51 rfl ?_
        refine lv_istore (lv' := [(4, .int 0), (3, .int 0), (2, .int 0), (0, .ref (t 0)), (1, .int sg)]) (pc := 52) hx hb dX4_readNumber_52 hl (by decide) rfl (fun ls hl => ?_)
        have hq2 : sk b n q ≤ n := (sk_le hq)
        subst er26
        subst er25
        subst er22
        have hfn : fX4_readNumber b n q u sg = dgT b n 0 4 (sk b n q) 0 := (if_neg c_2).trans ((if_neg c_23).trans (if_neg c_27))
        rw [hfn] at hQ
        have loop : ∀ (f i k : Nat) (v : Int32), i + f = 4 → k ≤ n → dgT b n 0 f k v = dgT b n 0 4 (sk b n q) 0 → ∀ (H : Heap) (locs : List Loc) (ls : Array Slot), va_P E.1 vwCl [(t 0, .inr (4, [.ref (t 1), .int (nI n), .ref (t 2), .ref (t 3), .ref (t 4), .int (nI o), .int (nI k), .int u])), (t 1, .inl (eB E, 120, .inl b)), (t 2, .inl (eI E, 40, .inl ks)), (t 3, .inl (eI E, 40, .inl fs)), (t 4, .inl (eI E, 40, .inl ss))] H → va_D A [(t 0, .inr (4, [.ref (t 1), .int (nI n), .ref (t 2), .ref (t 3), .ref (t 4), .int (nI o), .int (nI k), .int u])), (t 1, .inl (eB E, 120, .inl b)), (t 2, .inl (eI E, 40, .inl ks)), (t 3, .inl (eI E, 40, .inl fs)), (t 4, .inl (eI E, 40, .inl ss))] → va_S A s.heap H locs → lv_has ls 5 [(0, .ref (t 0)), (1, .int sg), (2, .int 0), (3, .int v), (4, .int (nI i))] → W p l e rX4_readNumber s m args below meth c H locs 0 0 Q (F0 m 54 ls []) := by
          intro f
          induction f with
          | zero =>
            intro i k v hi hkn hk H locs ls hP hD hS hl
            obtain rfl : i = 4 := by omega
            refine lv_iload (pc := 54) hx hb dX4_readNumber_54 (lv_at hl 4 rfl) ?_
            refine lv_iconst (v := 4) (pc := 56) hx hb dX4_readNumber_56 rfl ?_
            refine lv_icmp_ge (tgt := 99) (pc := 57) hx hb dX4_readNumber_57 (by decide) (fun c_28 => ?_) (fun c_28 => ?_)
            rotate_left
            · exact absurd (nI_le (a := 4) (b := 4) (by decide) (by decide)) c_28
            refine lv_aload_n (pc := 99) hx hb dX4_readNumber_99 rfl (lv_at hl 0 rfl) ?_
            refine lv_iload_n (pc := 100) hx hb dX4_readNumber_100 rfl (lv_at hl 2 rfl) ?_
            refine lv_if_eq (tgt := 109) (pc := 101) hx hb dX4_readNumber_101 (by decide) (fun c_29 => ?_) (fun c_29 => ?_)
            rotate_left
            · exact absurd (by decide) c_29
            refine lv_iload_n (pc := 109) hx hb dX4_readNumber_109 rfl (lv_at hl 3 rfl) ?_
            refine g_put (w1 := [(t 0, .inr (4, [.ref (t 1), .int (nI n), .ref (t 2), .ref (t 3), .ref (t 4), .int (nI o), .int (nI k), .int v])), (t 1, .inl (eB E, 120, .inl b)), (t 2, .inl (eI E, 40, .inl ks)), (t 3, .inl (eI E, 40, .inl fs)), (t 4, .inl (eI E, 40, .inl ss))]) (pc := 110) hx hb hts ii_X4_readNumber_X4 tyX4 tyX4_ok nmX4 hown hK.1 hP hD hS 0 rfl rfl 7 (by decide) ⟨rfl, rfl, rfl⟩ mm_X4_readNumber_2 rfl rfl rfl rfl (Nat.le_of_ble_eq_true rfl) rfl dX4_readNumber_110 (fun H locs hP hD hS => ?_)
            refine lv_aload_n (pc := 113) hx hb dX4_readNumber_113 rfl (lv_at hl 0 rfl) ?_
            obtain ⟨r30, er30⟩ : ∃ z : Int32, fX4_here b n k = z := ⟨_, rfl⟩
            have hr30 := kX4_here l E t n o k v b ks fs ss hn hkn
            rw [er30] at hr30
            refine gcVi (pc := 114) (w1 := [(t 0, .inr (4, [.ref (t 1), .int (nI n), .ref (t 2), .ref (t 3), .ref (t 4), .int (nI o), .int (nI k), .int v])), (t 1, .inl (eB E, 120, .inl b)), (t 2, .inl (eI E, 40, .inl ks)), (t 3, .inl (eI E, 40, .inl fs)), (t 4, .inl (eI E, 40, .inl ss))]) (pre := []) (post := []) (As := []) (rest := []) (q0 := 0) ⟨hx, hb, hml, hown, hts⟩ hr30 (cwV 0 hts gX4_readNumber_X4_here rfl rfl rfl qvX4_here ⟨Nat.le_of_ble_eq_true rfl, Nat.le_of_ble_eq_true rfl⟩) hK hP hD hS hA rfl rfl rfl rfl rfl hl.1 rfl (Nat.le_of_ble_eq_true rfl) dX4_readNumber_114 ⟨Nat.zero_le _, Nat.zero_le _⟩ (fun H locs hP hD hS => ?_)
            obtain ⟨r31, er31⟩ : ∃ z : Int32, fX4_isFigure r30 = z := ⟨_, rfl⟩
            have hr31 := kX4_isFigure l E r30
            rw [er31] at hr31
            refine gcSi (pc := 117) (As := [.int r30]) (rest := []) ⟨hx, hb, hml, hown, hts⟩ hr31 (cwS 1 hts gX4_readNumber_X4_isFigure rfl rfl rfl qsX4_isFigure ⟨Nat.le_of_ble_eq_true rfl, Nat.le_of_ble_eq_true rfl⟩) hK hP hD hS hA rfl hl.1 rfl (Nat.le_of_ble_eq_true rfl) dX4_readNumber_117 ⟨Nat.zero_le _, Nat.zero_le _⟩ (fun H locs hP hD hS => ?_)
            refine lv_if_ne (tgt := 127) (pc := 120) hx hb dX4_readNumber_120 (by decide) (fun c_32 => ?_) (fun c_32 => ?_)
            · refine lv_iconst (v := 0) (pc := 127) hx hb dX4_readNumber_127 rfl ?_
              subst er31
              subst er30
              have hfn2 : dgT b n 0 4 (sk b n q) 0 = (0, (k, if (0 : Int32) = 0 then v else -v)) := hk.symm.trans ((Prod.ext (if_neg c_32) rfl))
              rw [hfn2] at hQ
              exact hQ _ _ _ _ _ rfl hP hD hS dX4_readNumber_128
            · refine lv_iconst (v := 1) (pc := 123) hx hb dX4_readNumber_123 rfl ?_
              refine lv_goto (tgt := 128) (pc := 124) hx hb dX4_readNumber_124 (by decide) ?_
              subst er31
              subst er30
              have hfn2 : dgT b n 0 4 (sk b n q) 0 = (1, (k, if (0 : Int32) = 0 then v else -v)) := hk.symm.trans ((Prod.ext (if_pos c_32) rfl))
              rw [hfn2] at hQ
              exact hQ _ _ _ _ _ rfl hP hD hS dX4_readNumber_128
          | succ f ih =>
            intro i k v hi hkn hk H locs ls hP hD hS hl
            have hlt : i < 4 := by omega
            refine lv_iload (pc := 54) hx hb dX4_readNumber_54 (lv_at hl 4 rfl) ?_
            refine lv_iconst (v := 4) (pc := 56) hx hb dX4_readNumber_56 rfl ?_
            refine lv_icmp_ge (tgt := 99) (pc := 57) hx hb dX4_readNumber_57 (by decide) (fun c_33 => ?_) (fun c_33 => ?_)
            · exact absurd c_33 (nI_ge (a := i) (b := 4) hlt (by decide))
            refine lv_aload_n (pc := 60) hx hb dX4_readNumber_60 rfl (lv_at hl 0 rfl) ?_
            obtain ⟨r34, er34⟩ : ∃ z : Int32, fX4_here b n k = z := ⟨_, rfl⟩
            have hr34 := kX4_here l E t n o k u b ks fs ss hn hkn
            rw [er34] at hr34
            refine gcVi (pc := 61) (w1 := [(t 0, .inr (4, [.ref (t 1), .int (nI n), .ref (t 2), .ref (t 3), .ref (t 4), .int (nI o), .int (nI k), .int u])), (t 1, .inl (eB E, 120, .inl b)), (t 2, .inl (eI E, 40, .inl ks)), (t 3, .inl (eI E, 40, .inl fs)), (t 4, .inl (eI E, 40, .inl ss))]) (pre := []) (post := []) (As := []) (rest := []) (q0 := 0) ⟨hx, hb, hml, hown, hts⟩ hr34 (cwV 0 hts gX4_readNumber_X4_here rfl rfl rfl qvX4_here ⟨Nat.le_of_ble_eq_true rfl, Nat.le_of_ble_eq_true rfl⟩) hK hP hD hS hA rfl rfl rfl rfl rfl hl.1 rfl (Nat.le_of_ble_eq_true rfl) dX4_readNumber_61 ⟨Nat.zero_le _, Nat.zero_le _⟩ (fun H locs hP hD hS => ?_)
            obtain ⟨r35, er35⟩ : ∃ z : Int32, fX4_isFigure r34 = z := ⟨_, rfl⟩
            have hr35 := kX4_isFigure l E r34
            rw [er35] at hr35
            refine gcSi (pc := 64) (As := [.int r34]) (rest := []) ⟨hx, hb, hml, hown, hts⟩ hr35 (cwS 1 hts gX4_readNumber_X4_isFigure rfl rfl rfl qsX4_isFigure ⟨Nat.le_of_ble_eq_true rfl, Nat.le_of_ble_eq_true rfl⟩) hK hP hD hS hA rfl hl.1 rfl (Nat.le_of_ble_eq_true rfl) dX4_readNumber_64 ⟨Nat.zero_le _, Nat.zero_le _⟩ (fun H locs hP hD hS => ?_)
            refine lv_if_eq (tgt := 99) (pc := 67) hx hb dX4_readNumber_67 (by decide) (fun c_36 => ?_) (fun c_36 => ?_)
            · refine lv_aload_n (pc := 99) hx hb dX4_readNumber_99 rfl (lv_at hl 0 rfl) ?_
              refine lv_iload_n (pc := 100) hx hb dX4_readNumber_100 rfl (lv_at hl 2 rfl) ?_
              refine lv_if_eq (tgt := 109) (pc := 101) hx hb dX4_readNumber_101 (by decide) (fun c_37 => ?_) (fun c_37 => ?_)
              rotate_left
              · exact absurd (by decide) c_37
              refine lv_iload_n (pc := 109) hx hb dX4_readNumber_109 rfl (lv_at hl 3 rfl) ?_
              refine g_put (w1 := [(t 0, .inr (4, [.ref (t 1), .int (nI n), .ref (t 2), .ref (t 3), .ref (t 4), .int (nI o), .int (nI k), .int v])), (t 1, .inl (eB E, 120, .inl b)), (t 2, .inl (eI E, 40, .inl ks)), (t 3, .inl (eI E, 40, .inl fs)), (t 4, .inl (eI E, 40, .inl ss))]) (pc := 110) hx hb hts ii_X4_readNumber_X4 tyX4 tyX4_ok nmX4 hown hK.1 hP hD hS 0 rfl rfl 7 (by decide) ⟨rfl, rfl, rfl⟩ mm_X4_readNumber_2 rfl rfl rfl rfl (Nat.le_of_ble_eq_true rfl) rfl dX4_readNumber_110 (fun H locs hP hD hS => ?_)
              refine lv_aload_n (pc := 113) hx hb dX4_readNumber_113 rfl (lv_at hl 0 rfl) ?_
              obtain ⟨r38, er38⟩ : ∃ z : Int32, fX4_here b n k = z := ⟨_, rfl⟩
              have hr38 := kX4_here l E t n o k v b ks fs ss hn hkn
              rw [er38] at hr38
              refine gcVi (pc := 114) (w1 := [(t 0, .inr (4, [.ref (t 1), .int (nI n), .ref (t 2), .ref (t 3), .ref (t 4), .int (nI o), .int (nI k), .int v])), (t 1, .inl (eB E, 120, .inl b)), (t 2, .inl (eI E, 40, .inl ks)), (t 3, .inl (eI E, 40, .inl fs)), (t 4, .inl (eI E, 40, .inl ss))]) (pre := []) (post := []) (As := []) (rest := []) (q0 := 0) ⟨hx, hb, hml, hown, hts⟩ hr38 (cwV 0 hts gX4_readNumber_X4_here rfl rfl rfl qvX4_here ⟨Nat.le_of_ble_eq_true rfl, Nat.le_of_ble_eq_true rfl⟩) hK hP hD hS hA rfl rfl rfl rfl rfl hl.1 rfl (Nat.le_of_ble_eq_true rfl) dX4_readNumber_114 ⟨Nat.zero_le _, Nat.zero_le _⟩ (fun H locs hP hD hS => ?_)
              obtain ⟨r39, er39⟩ : ∃ z : Int32, fX4_isFigure r38 = z := ⟨_, rfl⟩
              have hr39 := kX4_isFigure l E r38
              rw [er39] at hr39
              refine gcSi (pc := 117) (As := [.int r38]) (rest := []) ⟨hx, hb, hml, hown, hts⟩ hr39 (cwS 1 hts gX4_readNumber_X4_isFigure rfl rfl rfl qsX4_isFigure ⟨Nat.le_of_ble_eq_true rfl, Nat.le_of_ble_eq_true rfl⟩) hK hP hD hS hA rfl hl.1 rfl (Nat.le_of_ble_eq_true rfl) dX4_readNumber_117 ⟨Nat.zero_le _, Nat.zero_le _⟩ (fun H locs hP hD hS => ?_)
              refine lv_if_ne (tgt := 127) (pc := 120) hx hb dX4_readNumber_120 (by decide) (fun c_40 => ?_) (fun c_40 => ?_)
              · refine lv_iconst (v := 0) (pc := 127) hx hb dX4_readNumber_127 rfl ?_
                subst er39
                subst er38
                subst er35
                subst er34
                have hfn2 : dgT b n 0 4 (sk b n q) 0 = (0, (k, if (0 : Int32) = 0 then v else -v)) := hk.symm.trans ((show dgT b n 0 (f + 1) k v = dgE b n 0 k v from if_pos c_36).trans (Prod.ext (if_neg c_40) rfl))
                rw [hfn2] at hQ
                exact hQ _ _ _ _ _ rfl hP hD hS dX4_readNumber_128
              · refine lv_iconst (v := 1) (pc := 123) hx hb dX4_readNumber_123 rfl ?_
                refine lv_goto (tgt := 128) (pc := 124) hx hb dX4_readNumber_124 (by decide) ?_
                subst er39
                subst er38
                subst er35
                subst er34
                have hfn2 : dgT b n 0 4 (sk b n q) 0 = (1, (k, if (0 : Int32) = 0 then v else -v)) := hk.symm.trans ((show dgT b n 0 (f + 1) k v = dgE b n 0 k v from if_pos c_36).trans (Prod.ext (if_pos c_40) rfl))
                rw [hfn2] at hQ
                exact hQ _ _ _ _ _ rfl hP hD hS dX4_readNumber_128
            · refine lv_bipush (v := 10) (pc := 70) hx hb dX4_readNumber_70 rfl ?_
              refine lv_iload_n (pc := 72) hx hb dX4_readNumber_72 rfl (lv_at hl 3 rfl) ?_
              refine lv_imul (pc := 73) hx hb dX4_readNumber_73 ?_
              refine lv_aload_n (pc := 74) hx hb dX4_readNumber_74 rfl (lv_at hl 0 rfl) ?_
              obtain ⟨r41, er41⟩ : ∃ z : Int32, fX4_here b n k = z := ⟨_, rfl⟩
              have hr41 := kX4_here l E t n o k u b ks fs ss hn hkn
              rw [er41] at hr41
              refine gcVi (pc := 75) (w1 := [(t 0, .inr (4, [.ref (t 1), .int (nI n), .ref (t 2), .ref (t 3), .ref (t 4), .int (nI o), .int (nI k), .int u])), (t 1, .inl (eB E, 120, .inl b)), (t 2, .inl (eI E, 40, .inl ks)), (t 3, .inl (eI E, 40, .inl fs)), (t 4, .inl (eI E, 40, .inl ss))]) (pre := []) (post := []) (As := []) (rest := [.int (10 * v)]) (q0 := 0) ⟨hx, hb, hml, hown, hts⟩ hr41 (cwV 0 hts gX4_readNumber_X4_here rfl rfl rfl qvX4_here ⟨Nat.le_of_ble_eq_true rfl, Nat.le_of_ble_eq_true rfl⟩) hK hP hD hS hA rfl rfl rfl rfl rfl hl.1 rfl (Nat.le_of_ble_eq_true rfl) dX4_readNumber_75 ⟨Nat.zero_le _, Nat.zero_le _⟩ (fun H locs hP hD hS => ?_)
              refine lv_iadd (pc := 78) hx hb dX4_readNumber_78 ?_
              refine lv_bipush (v := 48) (pc := 79) hx hb dX4_readNumber_79 rfl ?_
              refine lv_isub (pc := 81) hx hb dX4_readNumber_81 ?_
              refine g_topi (fun x42 ex42 => ?_)
              refine lv_istore_n (lv' := [(3, .int x42), (0, .ref (t 0)), (1, .int sg), (2, .int 0), (4, .int (nI i))]) (pc := 82) hx hb dX4_readNumber_82 rfl hl (by decide) rfl (fun ls hl => ?_)
              refine lv_aload_n (pc := 83) hx hb dX4_readNumber_83 rfl (lv_at hl 1 rfl) ?_
              refine lv_dup (pc := 84) hx hb dX4_readNumber_84 rfl ?_
              refine g_get (v := .int (nI k)) (pc := 85) hx hb hts ii_X4_readNumber_X4 hown hK.1 hP 0 rfl rfl 6 (by decide) ⟨rfl, rfl, rfl⟩ mm_X4_readNumber_1 rfl dX4_readNumber_85 ?_
              refine lv_iconst (v := 1) (pc := 88) hx hb dX4_readNumber_88 rfl ?_
              refine lv_iadd (pc := 89) hx hb dX4_readNumber_89 ?_
              rw [nI_1 k]
              refine g_put (w1 := [(t 0, .inr (4, [.ref (t 1), .int (nI n), .ref (t 2), .ref (t 3), .ref (t 4), .int (nI o), .int (nI (k + 1)), .int u])), (t 1, .inl (eB E, 120, .inl b)), (t 2, .inl (eI E, 40, .inl ks)), (t 3, .inl (eI E, 40, .inl fs)), (t 4, .inl (eI E, 40, .inl ss))]) (pc := 90) hx hb hts ii_X4_readNumber_X4 tyX4 tyX4_ok nmX4 hown hK.1 hP hD hS 0 rfl rfl 6 (by decide) ⟨rfl, rfl, rfl⟩ mm_X4_readNumber_1 rfl rfl rfl rfl (Nat.le_of_ble_eq_true rfl) rfl dX4_readNumber_90 (fun H locs hP hD hS => ?_)
              refine lv_iinc (v := nI (i + 1)) (lv' := [(4, .int (nI (i + 1))), (3, .int x42), (0, .ref (t 0)), (1, .int sg), (2, .int 0)]) (pc := 93) hx hb dX4_readNumber_93 hl (k := 4) rfl (nI_1 i) (by decide) rfl (fun ls hl => ?_)
              refine lv_goto (tgt := 54) (pc := 96) hx hb dX4_readNumber_96 (by decide) ?_
              subst ex42
              subst er41
              subst er35
              subst er34
              exact ih (i + 1) (k + 1) _ (by omega) (fg_lt c_36) ((show dgT b n 0 (f + 1) k v = dgT b n 0 f (k + 1) ((10 * v) + fX4_here b n k - 48) from if_neg c_36).symm.trans hk) _ _ _ hP hD hS (lv_sub hl [2, 3, 4, 1, 0] rfl)
        exact loop 4 0 (sk b n q) 0 (by decide) hq2 rfl _ _ _ hP hD hS (lv_sub hl [3, 4, 2, 1, 0] rfl)
      · refine lv_iconst (v := 0) (pc := 47) hx hb dX4_readNumber_47 rfl ?_
        subst er26
        subst er25
        subst er22
        have hfn : fX4_readNumber b n q u sg = _ := (if_neg c_2).trans ((if_neg c_23).trans (if_pos c_27))
        rw [hfn] at hQ
        exact hQ _ _ _ _ _ rfl hP hD hS dX4_readNumber_48
    · refine lv_iconst (v := 1) (pc := 17) hx hb dX4_readNumber_17 rfl ?_
      refine lv_goto (tgt := 22) (pc := 18) hx hb dX4_readNumber_18 (by decide) ?_
      refine lv_istore_n (lv' := [(2, .int 1), (0, .ref (t 0)), (1, .int sg)]) (pc := 22) hx hb dX4_readNumber_22 rfl hl (by decide) rfl (fun ls hl => ?_)
      refine lv_iload_n (pc := 23) hx hb dX4_readNumber_23 rfl (lv_at hl 0 rfl) ?_
      refine lv_if_eq (tgt := 37) (pc := 24) hx hb dX4_readNumber_24 (by decide) (fun c_43 => ?_) (fun c_43 => ?_)
      · exact absurd c_43 (by decide)
      refine lv_aload_n (pc := 27) hx hb dX4_readNumber_27 rfl (lv_at hl 1 rfl) ?_
      refine lv_dup (pc := 28) hx hb dX4_readNumber_28 rfl ?_
      refine g_get (v := .int (nI (sk b n q))) (pc := 29) hx hb hts ii_X4_readNumber_X4 hown hK.1 hP 0 rfl rfl 6 (by decide) ⟨rfl, rfl, rfl⟩ mm_X4_readNumber_1 rfl dX4_readNumber_29 ?_
      refine lv_iconst (v := 1) (pc := 32) hx hb dX4_readNumber_32 rfl ?_
      refine lv_iadd (pc := 33) hx hb dX4_readNumber_33 ?_
      rw [nI_1 (sk b n q)]
      refine g_put (w1 := [(t 0, .inr (4, [.ref (t 1), .int (nI n), .ref (t 2), .ref (t 3), .ref (t 4), .int (nI o), .int (nI (sk b n q + 1)), .int u])), (t 1, .inl (eB E, 120, .inl b)), (t 2, .inl (eI E, 40, .inl ks)), (t 3, .inl (eI E, 40, .inl fs)), (t 4, .inl (eI E, 40, .inl ss))]) (pc := 34) hx hb hts ii_X4_readNumber_X4 tyX4 tyX4_ok nmX4 hown hK.1 hP hD hS 0 rfl rfl 6 (by decide) ⟨rfl, rfl, rfl⟩ mm_X4_readNumber_1 rfl rfl rfl rfl (Nat.le_of_ble_eq_true rfl) rfl dX4_readNumber_34 (fun H locs hP hD hS => ?_)
      refine lv_aload_n (pc := 37) hx hb dX4_readNumber_37 rfl (lv_at hl 1 rfl) ?_
      obtain ⟨r44, er44⟩ : ∃ z : Int32, fX4_here b n (sk b n q + 1) = z := ⟨_, rfl⟩
      have hr44 := kX4_here l E t n o (sk b n q + 1) u b ks fs ss hn (by subst er22; exact hr_lt (fun z => absurd (c_23.symm.trans z) (by decide)))
      rw [er44] at hr44
      refine gcVi (pc := 38) (w1 := [(t 0, .inr (4, [.ref (t 1), .int (nI n), .ref (t 2), .ref (t 3), .ref (t 4), .int (nI o), .int (nI (sk b n q + 1)), .int u])), (t 1, .inl (eB E, 120, .inl b)), (t 2, .inl (eI E, 40, .inl ks)), (t 3, .inl (eI E, 40, .inl fs)), (t 4, .inl (eI E, 40, .inl ss))]) (pre := []) (post := []) (As := []) (rest := []) (q0 := 0) ⟨hx, hb, hml, hown, hts⟩ hr44 (cwV 0 hts gX4_readNumber_X4_here rfl rfl rfl qvX4_here ⟨Nat.le_of_ble_eq_true rfl, Nat.le_of_ble_eq_true rfl⟩) hK hP hD hS hA rfl rfl rfl rfl rfl hl.1 rfl (Nat.le_of_ble_eq_true rfl) dX4_readNumber_38 ⟨Nat.zero_le _, Nat.zero_le _⟩ (fun H locs hP hD hS => ?_)
      obtain ⟨r45, er45⟩ : ∃ z : Int32, fX4_isFigure r44 = z := ⟨_, rfl⟩
      have hr45 := kX4_isFigure l E r44
      rw [er45] at hr45
      refine gcSi (pc := 41) (As := [.int r44]) (rest := []) ⟨hx, hb, hml, hown, hts⟩ hr45 (cwS 1 hts gX4_readNumber_X4_isFigure rfl rfl rfl qsX4_isFigure ⟨Nat.le_of_ble_eq_true rfl, Nat.le_of_ble_eq_true rfl⟩) hK hP hD hS hA rfl hl.1 rfl (Nat.le_of_ble_eq_true rfl) dX4_readNumber_41 ⟨Nat.zero_le _, Nat.zero_le _⟩ (fun H locs hP hD hS => ?_)
      refine lv_if_ne (tgt := 49) (pc := 44) hx hb dX4_readNumber_44 (by decide) (fun c_46 => ?_) (fun c_46 => ?_)
      · refine lv_iconst (v := 0) (pc := 49) hx hb dX4_readNumber_49 rfl ?_
        refine lv_istore_n (lv' := [(3, .int 0), (2, .int 1), (0, .ref (t 0)), (1, .int sg)]) (pc := 50) hx hb dX4_readNumber_50 rfl hl (by decide) rfl (fun ls hl => ?_)
        refine lv_iconst (v := 0) (pc := 51) hx hb dX4_readNumber_51 rfl ?_
        refine lv_istore (lv' := [(4, .int 0), (3, .int 0), (2, .int 1), (0, .ref (t 0)), (1, .int sg)]) (pc := 52) hx hb dX4_readNumber_52 hl (by decide) rfl (fun ls hl => ?_)
        have hq2 : sk b n q + 1 ≤ n := (by subst er22; exact hr_lt (fun z => absurd (c_23.symm.trans z) (by decide)))
        subst er45
        subst er44
        subst er22
        have hfn : fX4_readNumber b n q u sg = dgT b n 1 4 (sk b n q + 1) 0 := (if_neg c_2).trans ((if_pos c_23).trans (if_neg c_46))
        rw [hfn] at hQ
        have loop : ∀ (f i k : Nat) (v : Int32), i + f = 4 → k ≤ n → dgT b n 1 f k v = dgT b n 1 4 (sk b n q + 1) 0 → ∀ (H : Heap) (locs : List Loc) (ls : Array Slot), va_P E.1 vwCl [(t 0, .inr (4, [.ref (t 1), .int (nI n), .ref (t 2), .ref (t 3), .ref (t 4), .int (nI o), .int (nI k), .int u])), (t 1, .inl (eB E, 120, .inl b)), (t 2, .inl (eI E, 40, .inl ks)), (t 3, .inl (eI E, 40, .inl fs)), (t 4, .inl (eI E, 40, .inl ss))] H → va_D A [(t 0, .inr (4, [.ref (t 1), .int (nI n), .ref (t 2), .ref (t 3), .ref (t 4), .int (nI o), .int (nI k), .int u])), (t 1, .inl (eB E, 120, .inl b)), (t 2, .inl (eI E, 40, .inl ks)), (t 3, .inl (eI E, 40, .inl fs)), (t 4, .inl (eI E, 40, .inl ss))] → va_S A s.heap H locs → lv_has ls 5 [(0, .ref (t 0)), (1, .int sg), (2, .int 1), (3, .int v), (4, .int (nI i))] → W p l e rX4_readNumber s m args below meth c H locs 0 0 Q (F0 m 54 ls []) := by
          intro f
          induction f with
          | zero =>
            intro i k v hi hkn hk H locs ls hP hD hS hl
            obtain rfl : i = 4 := by omega
            refine lv_iload (pc := 54) hx hb dX4_readNumber_54 (lv_at hl 4 rfl) ?_
            refine lv_iconst (v := 4) (pc := 56) hx hb dX4_readNumber_56 rfl ?_
            refine lv_icmp_ge (tgt := 99) (pc := 57) hx hb dX4_readNumber_57 (by decide) (fun c_47 => ?_) (fun c_47 => ?_)
            rotate_left
            · exact absurd (nI_le (a := 4) (b := 4) (by decide) (by decide)) c_47
            refine lv_aload_n (pc := 99) hx hb dX4_readNumber_99 rfl (lv_at hl 0 rfl) ?_
            refine lv_iload_n (pc := 100) hx hb dX4_readNumber_100 rfl (lv_at hl 2 rfl) ?_
            refine lv_if_eq (tgt := 109) (pc := 101) hx hb dX4_readNumber_101 (by decide) (fun c_48 => ?_) (fun c_48 => ?_)
            · exact absurd c_48 (by decide)
            refine lv_iload_n (pc := 104) hx hb dX4_readNumber_104 rfl (lv_at hl 3 rfl) ?_
            refine lv_ineg (pc := 105) hx hb dX4_readNumber_105 ?_
            refine lv_goto (tgt := 110) (pc := 106) hx hb dX4_readNumber_106 (by decide) ?_
            refine g_topi (fun x49 ex49 => ?_)
            refine g_put (w1 := [(t 0, .inr (4, [.ref (t 1), .int (nI n), .ref (t 2), .ref (t 3), .ref (t 4), .int (nI o), .int (nI k), .int x49])), (t 1, .inl (eB E, 120, .inl b)), (t 2, .inl (eI E, 40, .inl ks)), (t 3, .inl (eI E, 40, .inl fs)), (t 4, .inl (eI E, 40, .inl ss))]) (pc := 110) hx hb hts ii_X4_readNumber_X4 tyX4 tyX4_ok nmX4 hown hK.1 hP hD hS 0 rfl rfl 7 (by decide) ⟨rfl, rfl, rfl⟩ mm_X4_readNumber_2 rfl rfl rfl rfl (Nat.le_of_ble_eq_true rfl) rfl dX4_readNumber_110 (fun H locs hP hD hS => ?_)
            refine lv_aload_n (pc := 113) hx hb dX4_readNumber_113 rfl (lv_at hl 0 rfl) ?_
            obtain ⟨r50, er50⟩ : ∃ z : Int32, fX4_here b n k = z := ⟨_, rfl⟩
            have hr50 := kX4_here l E t n o k x49 b ks fs ss hn hkn
            rw [er50] at hr50
            refine gcVi (pc := 114) (w1 := [(t 0, .inr (4, [.ref (t 1), .int (nI n), .ref (t 2), .ref (t 3), .ref (t 4), .int (nI o), .int (nI k), .int x49])), (t 1, .inl (eB E, 120, .inl b)), (t 2, .inl (eI E, 40, .inl ks)), (t 3, .inl (eI E, 40, .inl fs)), (t 4, .inl (eI E, 40, .inl ss))]) (pre := []) (post := []) (As := []) (rest := []) (q0 := 0) ⟨hx, hb, hml, hown, hts⟩ hr50 (cwV 0 hts gX4_readNumber_X4_here rfl rfl rfl qvX4_here ⟨Nat.le_of_ble_eq_true rfl, Nat.le_of_ble_eq_true rfl⟩) hK hP hD hS hA rfl rfl rfl rfl rfl hl.1 rfl (Nat.le_of_ble_eq_true rfl) dX4_readNumber_114 ⟨Nat.zero_le _, Nat.zero_le _⟩ (fun H locs hP hD hS => ?_)
            obtain ⟨r51, er51⟩ : ∃ z : Int32, fX4_isFigure r50 = z := ⟨_, rfl⟩
            have hr51 := kX4_isFigure l E r50
            rw [er51] at hr51
            refine gcSi (pc := 117) (As := [.int r50]) (rest := []) ⟨hx, hb, hml, hown, hts⟩ hr51 (cwS 1 hts gX4_readNumber_X4_isFigure rfl rfl rfl qsX4_isFigure ⟨Nat.le_of_ble_eq_true rfl, Nat.le_of_ble_eq_true rfl⟩) hK hP hD hS hA rfl hl.1 rfl (Nat.le_of_ble_eq_true rfl) dX4_readNumber_117 ⟨Nat.zero_le _, Nat.zero_le _⟩ (fun H locs hP hD hS => ?_)
            refine lv_if_ne (tgt := 127) (pc := 120) hx hb dX4_readNumber_120 (by decide) (fun c_52 => ?_) (fun c_52 => ?_)
            · refine lv_iconst (v := 0) (pc := 127) hx hb dX4_readNumber_127 rfl ?_
              subst er51
              subst er50
              subst ex49
              have hfn2 : dgT b n 1 4 (sk b n q + 1) 0 = (0, (k, if (1 : Int32) = 0 then v else -v)) := hk.symm.trans ((Prod.ext (if_neg c_52) rfl))
              rw [hfn2] at hQ
              exact hQ _ _ _ _ _ rfl hP hD hS dX4_readNumber_128
            · refine lv_iconst (v := 1) (pc := 123) hx hb dX4_readNumber_123 rfl ?_
              refine lv_goto (tgt := 128) (pc := 124) hx hb dX4_readNumber_124 (by decide) ?_
              subst er51
              subst er50
              subst ex49
              have hfn2 : dgT b n 1 4 (sk b n q + 1) 0 = (1, (k, if (1 : Int32) = 0 then v else -v)) := hk.symm.trans ((Prod.ext (if_pos c_52) rfl))
              rw [hfn2] at hQ
              exact hQ _ _ _ _ _ rfl hP hD hS dX4_readNumber_128
          | succ f ih =>
            intro i k v hi hkn hk H locs ls hP hD hS hl
            have hlt : i < 4 := by omega
            refine lv_iload (pc := 54) hx hb dX4_readNumber_54 (lv_at hl 4 rfl) ?_
            refine lv_iconst (v := 4) (pc := 56) hx hb dX4_readNumber_56 rfl ?_
            refine lv_icmp_ge (tgt := 99) (pc := 57) hx hb dX4_readNumber_57 (by decide) (fun c_53 => ?_) (fun c_53 => ?_)
            · exact absurd c_53 (nI_ge (a := i) (b := 4) hlt (by decide))
            refine lv_aload_n (pc := 60) hx hb dX4_readNumber_60 rfl (lv_at hl 0 rfl) ?_
            obtain ⟨r54, er54⟩ : ∃ z : Int32, fX4_here b n k = z := ⟨_, rfl⟩
            have hr54 := kX4_here l E t n o k u b ks fs ss hn hkn
            rw [er54] at hr54
            refine gcVi (pc := 61) (w1 := [(t 0, .inr (4, [.ref (t 1), .int (nI n), .ref (t 2), .ref (t 3), .ref (t 4), .int (nI o), .int (nI k), .int u])), (t 1, .inl (eB E, 120, .inl b)), (t 2, .inl (eI E, 40, .inl ks)), (t 3, .inl (eI E, 40, .inl fs)), (t 4, .inl (eI E, 40, .inl ss))]) (pre := []) (post := []) (As := []) (rest := []) (q0 := 0) ⟨hx, hb, hml, hown, hts⟩ hr54 (cwV 0 hts gX4_readNumber_X4_here rfl rfl rfl qvX4_here ⟨Nat.le_of_ble_eq_true rfl, Nat.le_of_ble_eq_true rfl⟩) hK hP hD hS hA rfl rfl rfl rfl rfl hl.1 rfl (Nat.le_of_ble_eq_true rfl) dX4_readNumber_61 ⟨Nat.zero_le _, Nat.zero_le _⟩ (fun H locs hP hD hS => ?_)
            obtain ⟨r55, er55⟩ : ∃ z : Int32, fX4_isFigure r54 = z := ⟨_, rfl⟩
            have hr55 := kX4_isFigure l E r54
            rw [er55] at hr55
            refine gcSi (pc := 64) (As := [.int r54]) (rest := []) ⟨hx, hb, hml, hown, hts⟩ hr55 (cwS 1 hts gX4_readNumber_X4_isFigure rfl rfl rfl qsX4_isFigure ⟨Nat.le_of_ble_eq_true rfl, Nat.le_of_ble_eq_true rfl⟩) hK hP hD hS hA rfl hl.1 rfl (Nat.le_of_ble_eq_true rfl) dX4_readNumber_64 ⟨Nat.zero_le _, Nat.zero_le _⟩ (fun H locs hP hD hS => ?_)
            refine lv_if_eq (tgt := 99) (pc := 67) hx hb dX4_readNumber_67 (by decide) (fun c_56 => ?_) (fun c_56 => ?_)
            · refine lv_aload_n (pc := 99) hx hb dX4_readNumber_99 rfl (lv_at hl 0 rfl) ?_
              refine lv_iload_n (pc := 100) hx hb dX4_readNumber_100 rfl (lv_at hl 2 rfl) ?_
              refine lv_if_eq (tgt := 109) (pc := 101) hx hb dX4_readNumber_101 (by decide) (fun c_57 => ?_) (fun c_57 => ?_)
              · exact absurd c_57 (by decide)
              refine lv_iload_n (pc := 104) hx hb dX4_readNumber_104 rfl (lv_at hl 3 rfl) ?_
              refine lv_ineg (pc := 105) hx hb dX4_readNumber_105 ?_
              refine lv_goto (tgt := 110) (pc := 106) hx hb dX4_readNumber_106 (by decide) ?_
              refine g_topi (fun x58 ex58 => ?_)
              refine g_put (w1 := [(t 0, .inr (4, [.ref (t 1), .int (nI n), .ref (t 2), .ref (t 3), .ref (t 4), .int (nI o), .int (nI k), .int x58])), (t 1, .inl (eB E, 120, .inl b)), (t 2, .inl (eI E, 40, .inl ks)), (t 3, .inl (eI E, 40, .inl fs)), (t 4, .inl (eI E, 40, .inl ss))]) (pc := 110) hx hb hts ii_X4_readNumber_X4 tyX4 tyX4_ok nmX4 hown hK.1 hP hD hS 0 rfl rfl 7 (by decide) ⟨rfl, rfl, rfl⟩ mm_X4_readNumber_2 rfl rfl rfl rfl (Nat.le_of_ble_eq_true rfl) rfl dX4_readNumber_110 (fun H locs hP hD hS => ?_)
              refine lv_aload_n (pc := 113) hx hb dX4_readNumber_113 rfl (lv_at hl 0 rfl) ?_
              obtain ⟨r59, er59⟩ : ∃ z : Int32, fX4_here b n k = z := ⟨_, rfl⟩
              have hr59 := kX4_here l E t n o k x58 b ks fs ss hn hkn
              rw [er59] at hr59
              refine gcVi (pc := 114) (w1 := [(t 0, .inr (4, [.ref (t 1), .int (nI n), .ref (t 2), .ref (t 3), .ref (t 4), .int (nI o), .int (nI k), .int x58])), (t 1, .inl (eB E, 120, .inl b)), (t 2, .inl (eI E, 40, .inl ks)), (t 3, .inl (eI E, 40, .inl fs)), (t 4, .inl (eI E, 40, .inl ss))]) (pre := []) (post := []) (As := []) (rest := []) (q0 := 0) ⟨hx, hb, hml, hown, hts⟩ hr59 (cwV 0 hts gX4_readNumber_X4_here rfl rfl rfl qvX4_here ⟨Nat.le_of_ble_eq_true rfl, Nat.le_of_ble_eq_true rfl⟩) hK hP hD hS hA rfl rfl rfl rfl rfl hl.1 rfl (Nat.le_of_ble_eq_true rfl) dX4_readNumber_114 ⟨Nat.zero_le _, Nat.zero_le _⟩ (fun H locs hP hD hS => ?_)
              obtain ⟨r60, er60⟩ : ∃ z : Int32, fX4_isFigure r59 = z := ⟨_, rfl⟩
              have hr60 := kX4_isFigure l E r59
              rw [er60] at hr60
              refine gcSi (pc := 117) (As := [.int r59]) (rest := []) ⟨hx, hb, hml, hown, hts⟩ hr60 (cwS 1 hts gX4_readNumber_X4_isFigure rfl rfl rfl qsX4_isFigure ⟨Nat.le_of_ble_eq_true rfl, Nat.le_of_ble_eq_true rfl⟩) hK hP hD hS hA rfl hl.1 rfl (Nat.le_of_ble_eq_true rfl) dX4_readNumber_117 ⟨Nat.zero_le _, Nat.zero_le _⟩ (fun H locs hP hD hS => ?_)
              refine lv_if_ne (tgt := 127) (pc := 120) hx hb dX4_readNumber_120 (by decide) (fun c_61 => ?_) (fun c_61 => ?_)
              · refine lv_iconst (v := 0) (pc := 127) hx hb dX4_readNumber_127 rfl ?_
                subst er60
                subst er59
                subst ex58
                subst er55
                subst er54
                have hfn2 : dgT b n 1 4 (sk b n q + 1) 0 = (0, (k, if (1 : Int32) = 0 then v else -v)) := hk.symm.trans ((show dgT b n 1 (f + 1) k v = dgE b n 1 k v from if_pos c_56).trans (Prod.ext (if_neg c_61) rfl))
                rw [hfn2] at hQ
                exact hQ _ _ _ _ _ rfl hP hD hS dX4_readNumber_128
              · refine lv_iconst (v := 1) (pc := 123) hx hb dX4_readNumber_123 rfl ?_
                refine lv_goto (tgt := 128) (pc := 124) hx hb dX4_readNumber_124 (by decide) ?_
                subst er60
                subst er59
                subst ex58
                subst er55
                subst er54
                have hfn2 : dgT b n 1 4 (sk b n q + 1) 0 = (1, (k, if (1 : Int32) = 0 then v else -v)) := hk.symm.trans ((show dgT b n 1 (f + 1) k v = dgE b n 1 k v from if_pos c_56).trans (Prod.ext (if_pos c_61) rfl))
                rw [hfn2] at hQ
                exact hQ _ _ _ _ _ rfl hP hD hS dX4_readNumber_128
            · refine lv_bipush (v := 10) (pc := 70) hx hb dX4_readNumber_70 rfl ?_
              refine lv_iload_n (pc := 72) hx hb dX4_readNumber_72 rfl (lv_at hl 3 rfl) ?_
              refine lv_imul (pc := 73) hx hb dX4_readNumber_73 ?_
              refine lv_aload_n (pc := 74) hx hb dX4_readNumber_74 rfl (lv_at hl 0 rfl) ?_
              obtain ⟨r62, er62⟩ : ∃ z : Int32, fX4_here b n k = z := ⟨_, rfl⟩
              have hr62 := kX4_here l E t n o k u b ks fs ss hn hkn
              rw [er62] at hr62
              refine gcVi (pc := 75) (w1 := [(t 0, .inr (4, [.ref (t 1), .int (nI n), .ref (t 2), .ref (t 3), .ref (t 4), .int (nI o), .int (nI k), .int u])), (t 1, .inl (eB E, 120, .inl b)), (t 2, .inl (eI E, 40, .inl ks)), (t 3, .inl (eI E, 40, .inl fs)), (t 4, .inl (eI E, 40, .inl ss))]) (pre := []) (post := []) (As := []) (rest := [.int (10 * v)]) (q0 := 0) ⟨hx, hb, hml, hown, hts⟩ hr62 (cwV 0 hts gX4_readNumber_X4_here rfl rfl rfl qvX4_here ⟨Nat.le_of_ble_eq_true rfl, Nat.le_of_ble_eq_true rfl⟩) hK hP hD hS hA rfl rfl rfl rfl rfl hl.1 rfl (Nat.le_of_ble_eq_true rfl) dX4_readNumber_75 ⟨Nat.zero_le _, Nat.zero_le _⟩ (fun H locs hP hD hS => ?_)
              refine lv_iadd (pc := 78) hx hb dX4_readNumber_78 ?_
              refine lv_bipush (v := 48) (pc := 79) hx hb dX4_readNumber_79 rfl ?_
              refine lv_isub (pc := 81) hx hb dX4_readNumber_81 ?_
              refine g_topi (fun x63 ex63 => ?_)
              refine lv_istore_n (lv' := [(3, .int x63), (0, .ref (t 0)), (1, .int sg), (2, .int 1), (4, .int (nI i))]) (pc := 82) hx hb dX4_readNumber_82 rfl hl (by decide) rfl (fun ls hl => ?_)
              refine lv_aload_n (pc := 83) hx hb dX4_readNumber_83 rfl (lv_at hl 1 rfl) ?_
              refine lv_dup (pc := 84) hx hb dX4_readNumber_84 rfl ?_
              refine g_get (v := .int (nI k)) (pc := 85) hx hb hts ii_X4_readNumber_X4 hown hK.1 hP 0 rfl rfl 6 (by decide) ⟨rfl, rfl, rfl⟩ mm_X4_readNumber_1 rfl dX4_readNumber_85 ?_
              refine lv_iconst (v := 1) (pc := 88) hx hb dX4_readNumber_88 rfl ?_
              refine lv_iadd (pc := 89) hx hb dX4_readNumber_89 ?_
              rw [nI_1 k]
              refine g_put (w1 := [(t 0, .inr (4, [.ref (t 1), .int (nI n), .ref (t 2), .ref (t 3), .ref (t 4), .int (nI o), .int (nI (k + 1)), .int u])), (t 1, .inl (eB E, 120, .inl b)), (t 2, .inl (eI E, 40, .inl ks)), (t 3, .inl (eI E, 40, .inl fs)), (t 4, .inl (eI E, 40, .inl ss))]) (pc := 90) hx hb hts ii_X4_readNumber_X4 tyX4 tyX4_ok nmX4 hown hK.1 hP hD hS 0 rfl rfl 6 (by decide) ⟨rfl, rfl, rfl⟩ mm_X4_readNumber_1 rfl rfl rfl rfl (Nat.le_of_ble_eq_true rfl) rfl dX4_readNumber_90 (fun H locs hP hD hS => ?_)
              refine lv_iinc (v := nI (i + 1)) (lv' := [(4, .int (nI (i + 1))), (3, .int x63), (0, .ref (t 0)), (1, .int sg), (2, .int 1)]) (pc := 93) hx hb dX4_readNumber_93 hl (k := 4) rfl (nI_1 i) (by decide) rfl (fun ls hl => ?_)
              refine lv_goto (tgt := 54) (pc := 96) hx hb dX4_readNumber_96 (by decide) ?_
              subst ex63
              subst er62
              subst er55
              subst er54
              exact ih (i + 1) (k + 1) _ (by omega) (fg_lt c_56) ((show dgT b n 1 (f + 1) k v = dgT b n 1 f (k + 1) ((10 * v) + fX4_here b n k - 48) from if_neg c_56).symm.trans hk) _ _ _ hP hD hS (lv_sub hl [2, 3, 4, 1, 0] rfl)
        exact loop 4 0 (sk b n q + 1) 0 (by decide) hq2 rfl _ _ _ hP hD hS (lv_sub hl [3, 4, 2, 1, 0] rfl)
      · refine lv_iconst (v := 0) (pc := 47) hx hb dX4_readNumber_47 rfl ?_
        subst er45
        subst er44
        subst er22
        have hfn : fX4_readNumber b n q u sg = _ := (if_neg c_2).trans ((if_pos c_23).trans (if_pos c_46))
        rw [hfn] at hQ
        exact hQ _ _ _ _ _ rfl hP hD hS dX4_readNumber_48
