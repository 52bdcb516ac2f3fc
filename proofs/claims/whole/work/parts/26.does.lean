/-! the class does orders; its digest -/
theorem ob_k (N : GS) (v : Int32) : (fX5_obey N v).2.2.2 = N.2.2 ∧ (fX5_obey N v).2.1 = N.1 := by
  generalize hz : fX5_obey N v = z
  unfold fX5_obey at hz
  simp only [] at hz
  generalize fX4_kindOf N.2.2.2.2.2 v = k at hz
  by_cases c1 : k = 99
  · rw [if_pos c1] at hz; subst hz; exact ⟨rfl, rfl⟩
  · rw [if_neg c1] at hz
    by_cases c2 : k = 103
    · rw [if_pos c2] at hz; subst hz; exact ⟨rfl, rfl⟩
    · rw [if_neg c2] at hz
      by_cases c3 : k = 108
      · rw [if_pos c3] at hz; subst hz; exact ⟨rfl, rfl⟩
      · rw [if_neg c3] at hz
        by_cases c4 : k = 111
        · rw [if_pos c4] at hz; subst hz; exact ⟨rfl, rfl⟩
        · rw [if_neg c4] at hz
          by_cases c5 : k = 112
          · rw [if_pos c5] at hz; subst hz; exact ⟨rfl, rfl⟩
          · rw [if_neg c5] at hz
            by_cases c6 : k = 114
            · rw [if_pos c6] at hz; subst hz; exact ⟨rfl, rfl⟩
            · rw [if_neg c6] at hz; subst hz; exact ⟨rfl, rfl⟩
/-- the marked battery is kept -/
def keG (N : GS) : GS := (N.1, N.2.1, (fX3_keepMarked N.2.2.1 N.2.2.2.1).1, (fX3_keepMarked N.2.2.1 N.2.2.2.1).2, N.2.2.2.2.1, N.2.2.2.2.2)
/-- the marked battery comes back -/
def reG (N : GS) : GS := (N.1, fX3_restoreMarked N.2.1 N.2.2.1 N.2.2.2.1 N.2.2.2.2.1, N.2.2.1, N.2.2.2.1, N.2.2.2.2.1, N.2.2.2.2.2)
/-- the battery is marked -/
def maG (N : GS) : GS := (N.1, N.2.1, N.2.2.1, N.2.2.2.1, fX3_mark N.2.1 N.2.2.1 N.2.2.2.1 N.2.2.2.2.1, N.2.2.2.2.2)
def rdG (G : GS) (n : Nat) : GS := (G.1, G.2.1, G.2.2.1, G.2.2.2.1, G.2.2.2.2.1, rdX G.2.2.2.2.2 n (fX4_read G.2.2.2.2.2 n).2)
def dcT : Nat → Nat → GS → Int32 × GS
  | 0, _, N => (fX4_orders N.2.2.2.2.2, keG N)
  | f + 1, i, N => if fX5_isRefusal (fX5_obey N (nI i)).1 = 0 then dcT f (i + 1) (fX5_obey N (nI i)).2 else ((-1000) - (nI i), reG (fX5_obey N (nI i)).2)
def fX5_does (G : GS) (n : Nat) : Int32 × GS := if (fX4_read G.2.2.2.2.2 n).1 = 0 then ((-10) - (fX4_place (rdX G.2.2.2.2.2 n (fX4_read G.2.2.2.2.2 n).2)), rdG G n) else dcT (fX4_read G.2.2.2.2.2 n).2.1 0 (maG (rdG G n))

abbrev rX5_does : Room := { frames := 6, cells := 0, slots := 0, locals := 138 }
theorem mm_X5_does_1 : Cond.fieldLink RX5 26 "GaugeBounds" "text" "LGaugeBounds$Text;" ∈ wsX5_does := List.mem_of_getElem? (i := 1) rfl
theorem mm_X5_does_2 : Cond.fieldLink RX5 19 "GaugeBounds" "states" "LGaugeBounds$States;" ∈ wsX5_does := List.mem_of_getElem? (i := 2) rfl
theorem mm_X5_does_3 : Cond.fieldLink RX5 10 "GaugeBounds" "battery" "LGaugeBounds$Battery;" ∈ wsX5_does := List.mem_of_getElem? (i := 3) rfl
theorem ii_X5_does_X5 : ∀ w ∈ wsX50, w ∈ wsX5_does := fun _ h => List.mem_cons_of_mem _ (List.mem_append_left _ (List.mem_append_left _ (List.mem_append_left _ (List.mem_append_left _ (List.mem_append_left _ (List.mem_append_right _ (h)))))))
theorem qvX5_does : yX5_does.cls = RX5 ∧ yX5_does.cls ≠ "java/lang/invoke/MethodHandle" ∧ yX5_does.cls ≠ "java/lang/invoke/VarHandle" ∧ (parseMethodDescriptor yX5_does.desc).map (fun d => d.parameters.length) = some 0 := by decide +kernel
set_option maxHeartbeats 4000000 in
set_option maxRecDepth 100000 in
theorem kX5_does (l : Launch) (E : gEnv) (g0 : Nat) (b : Nat → Nat) (u0 u1 : Nat) (rr : Nat → Nat → Nat) (t : Nat → Nat) (G : GS) (n : Nat) (hn : n ≤ 120) (hx0 : G.2.2.2.2.2.1 0 = nI n) (hj : G.2.2.1 < 6) (hO : (fX4_read G.2.2.2.2.2 n).2.1 ≤ 40) : gMi l E yX5_does wsX5_does rX5_does [.ref g0] (wG E g0 b u0 u1 rr t G) (fX5_does G n).1 (wG E g0 b u0 u1 rr t ((fX5_does G n).2)) := by
  refine gMi_of (cc := cX5_does) (maxL := 2) (ret := (some .int)) (by decide) rfl rfl (Nat.le_of_ble_eq_true rfl) ?_
  intro p e s m args below meth c A Q ls hB hQ
  obtain ⟨hx, hb, hml, hown, hts, hK, hP, hD, hA, hS, hl⟩ := hB
  have hown : s.vm.findClass RX5 = some m.cls := hown
  have hP : va_P E.1 vwCl ((g0, .inr (5, [.ref (b 0), .ref u0, .ref (t 0), .int (G.1 0), .int (G.1 1), .int (G.1 2)])) :: ((wB E b G.2.1) ++ ((u0, .inr (3, [.ref u1, .int (nI G.2.2.1), .int G.2.2.2.1])) :: ((u1, .inl (eO E, 6, .inr (.inr (.inr (.inr (fun k => some (rr k 0))))))) :: ((wRg E rr G.2.2.2.2.1) ++ (wT E t G.2.2.2.2.2)))))) s.heap := hP
  have hD : va_D A ((g0, .inr (5, [.ref (b 0), .ref u0, .ref (t 0), .int (G.1 0), .int (G.1 1), .int (G.1 2)])) :: ((wB E b G.2.1) ++ ((u0, .inr (3, [.ref u1, .int (nI G.2.2.1), .int G.2.2.2.1])) :: ((u1, .inl (eO E, 6, .inr (.inr (.inr (.inr (fun k => some (rr k 0))))))) :: ((wRg E rr G.2.2.2.2.1) ++ (wT E t G.2.2.2.2.2)))))) := hD
  have hl : lv_has ls 2 [(0, .ref g0)] := hl
  refine lv_aload_n (pc := 0) hx hb dX5_does_0 rfl (lv_at hl 0 rfl) ?_
  refine g_get (v := .ref (t 0)) (pc := 1) hx hb hts ii_X5_does_X5 hown hK.1 hP 0 rfl rfl 2 (by decide) ⟨rfl, rfl, rfl⟩ mm_X5_does_1 rfl dX5_does_1 ?_
  obtain ⟨r1, er1⟩ : ∃ z : Int32 × (RS), fX4_read G.2.2.2.2.2 n = z := ⟨_, rfl⟩
  have hr1 := kX4_read l E t G.2.2.2.2.2 n hn hx0
  rw [er1] at hr1
  refine gcVi (pc := 4) (w1 := ((g0, .inr (5, [.ref (b 0), .ref u0, .ref (t 0), .int (G.1 0), .int (G.1 1), .int (G.1 2)])) :: ((wB E b G.2.1) ++ ((u0, .inr (3, [.ref u1, .int (nI G.2.2.1), .int G.2.2.2.1])) :: ((u1, .inl (eO E, 6, .inr (.inr (.inr (.inr (fun k => some (rr k 0))))))) :: ((wRg E rr G.2.2.2.2.1) ++ (wT E t (rdX G.2.2.2.2.2 n r1.2)))))))) (pre := ((g0, .inr (5, [.ref (b 0), .ref u0, .ref (t 0), .int (G.1 0), .int (G.1 1), .int (G.1 2)])) :: ((wB E b G.2.1) ++ ((u0, .inr (3, [.ref u1, .int (nI G.2.2.1), .int G.2.2.2.1])) :: ((u1, .inl (eO E, 6, .inr (.inr (.inr (.inr (fun k => some (rr k 0))))))) :: (wRg E rr G.2.2.2.2.1)))))) (post := []) (As := []) (rest := []) (q0 := 0) ⟨hx, hb, hml, hown, hts⟩ hr1 (cwV 0 hts gX5_does_X4_read rfl rfl rfl qvX4_read ⟨Nat.le_of_ble_eq_true rfl, Nat.le_of_ble_eq_true rfl⟩) hK hP hD hS hA (by simp only [List.cons_append, List.append_assoc, List.nil_append, List.append_nil]) (by simp only [List.cons_append, List.append_assoc, List.nil_append, List.append_nil]) rfl rfl rfl hl.1 rfl (Nat.le_of_ble_eq_true rfl) dX5_does_4 ⟨Nat.zero_le _, Nat.zero_le _⟩ (fun H locs hP hD hS => ?_)
  refine lv_if_ne (tgt := 21) (pc := 7) hx hb dX5_does_7 (by decide) (fun c_2 => ?_) (fun c_2 => ?_)
  · refine lv_aload_n (pc := 21) hx hb dX5_does_21 rfl (lv_at hl 0 rfl) ?_
    refine g_get (v := .ref u0) (pc := 22) hx hb hts ii_X5_does_X5 hown hK.1 hP 0 rfl rfl 1 (by decide) ⟨rfl, rfl, rfl⟩ mm_X5_does_2 rfl dX5_does_22 ?_
    refine lv_aload_n (pc := 25) hx hb dX5_does_25 rfl (lv_at hl 0 rfl) ?_
    refine g_get (v := .ref (b 0)) (pc := 26) hx hb hts ii_X5_does_X5 hown hK.1 hP 0 rfl rfl 0 (by decide) ⟨rfl, rfl, rfl⟩ mm_X5_does_3 rfl dX5_does_26 ?_
    obtain ⟨r3, er3⟩ : ∃ z : Nat → Bat, fX3_mark G.2.1 G.2.2.1 G.2.2.2.1 G.2.2.2.2.1 = z := ⟨_, rfl⟩
    have hr3 := kX3_mark l E b u0 u1 rr G.2.1 G.2.2.1 G.2.2.2.1 G.2.2.2.2.1 hj
    rw [er3] at hr3
    refine gcVv (pc := 29) (w1 := ((g0, .inr (5, [.ref (b 0), .ref u0, .ref (t 0), .int (G.1 0), .int (G.1 1), .int (G.1 2)])) :: ((wB E b G.2.1) ++ ((u0, .inr (3, [.ref u1, .int (nI G.2.2.1), .int G.2.2.2.1])) :: ((u1, .inl (eO E, 6, .inr (.inr (.inr (.inr (fun k => some (rr k 0))))))) :: ((wRg E rr r3) ++ (wT E t (rdX G.2.2.2.2.2 n r1.2)))))))) (pre := [(g0, .inr (5, [.ref (b 0), .ref u0, .ref (t 0), .int (G.1 0), .int (G.1 1), .int (G.1 2)]))]) (post := (wT E t (rdX G.2.2.2.2.2 n r1.2))) (As := [.ref (b 0)]) (rest := []) (q0 := 6) ⟨hx, hb, hml, hown, hts⟩ hr3 (cwV 1 hts gX5_does_X3_mark rfl rfl rfl qvX3_mark ⟨Nat.le_of_ble_eq_true rfl, Nat.le_of_ble_eq_true rfl⟩) hK hP hD hS hA (by simp only [List.cons_append, List.append_assoc, List.nil_append, List.append_nil]) (by simp only [List.cons_append, List.append_assoc, List.nil_append, List.append_nil]) rfl rfl rfl hl.1 rfl (Nat.le_of_ble_eq_true rfl) dX5_does_29 ⟨Nat.zero_le _, Nat.zero_le _⟩ (fun H locs hP hD hS => ?_)
    refine lv_iconst (v := 0) (pc := 32) hx hb dX5_does_32 rfl ?_
    refine lv_istore_n (lv' := [(1, .int 0), (0, .ref g0)]) (pc := 33) hx hb dX5_does_33 rfl hl (by decide) rfl (fun ls hl => ?_)
    have hc : ¬ (fX4_read G.2.2.2.2.2 n).1 = 0 := by rw [er1]; exact c_2
    subst er3
    subst er1
    have hfn : fX5_does G n = dcT (fX4_read G.2.2.2.2.2 n).2.1 0 (maG (rdG G n)) := if_neg hc
    rw [hfn] at hQ
    have loop : ∀ (f i : Nat) (N : GS), i + f = (fX4_read G.2.2.2.2.2 n).2.1 → N.2.2.1 < 6 → N.2.2.2.2.2.1 1 = nI (fX4_read G.2.2.2.2.2 n).2.1 → dcT f i N = dcT (fX4_read G.2.2.2.2.2 n).2.1 0 (maG (rdG G n)) → ∀ (H : Heap) (locs : List Loc) (ls : Array Slot), va_P E.1 vwCl ((g0, .inr (5, [.ref (b 0), .ref u0, .ref (t 0), .int (N.1 0), .int (N.1 1), .int (N.1 2)])) :: ((wB E b N.2.1) ++ ((u0, .inr (3, [.ref u1, .int (nI N.2.2.1), .int N.2.2.2.1])) :: ((u1, .inl (eO E, 6, .inr (.inr (.inr (.inr (fun k => some (rr k 0))))))) :: ((wRg E rr N.2.2.2.2.1) ++ (wT E t N.2.2.2.2.2)))))) H → va_D A ((g0, .inr (5, [.ref (b 0), .ref u0, .ref (t 0), .int (N.1 0), .int (N.1 1), .int (N.1 2)])) :: ((wB E b N.2.1) ++ ((u0, .inr (3, [.ref u1, .int (nI N.2.2.1), .int N.2.2.2.1])) :: ((u1, .inl (eO E, 6, .inr (.inr (.inr (.inr (fun k => some (rr k 0))))))) :: ((wRg E rr N.2.2.2.2.1) ++ (wT E t N.2.2.2.2.2)))))) → va_S A s.heap H locs → lv_has ls 2 [(0, .ref g0), (1, .int (nI i))] → W p l e rX5_does s m args below meth c H locs 0 0 Q (F0 m 34 ls []) := by
      intro f
      induction f with
      | zero =>
        intro i N hi hNj hNo hk H locs ls hP hD hS hl
        refine lv_iload_n (pc := 34) hx hb dX5_does_34 rfl (lv_at hl 1 rfl) ?_
        refine lv_aload_n (pc := 35) hx hb dX5_does_35 rfl (lv_at hl 0 rfl) ?_
        refine g_get (v := .ref (t 0)) (pc := 36) hx hb hts ii_X5_does_X5 hown hK.1 hP 0 rfl rfl 2 (by decide) ⟨rfl, rfl, rfl⟩ mm_X5_does_1 rfl dX5_does_36 ?_
        obtain ⟨r4, er4⟩ : ∃ z : Int32, fX4_orders N.2.2.2.2.2 = z := ⟨_, rfl⟩
        have hr4 := kX4_orders l E t N.2.2.2.2.2
        rw [er4] at hr4
        refine gcVi (pc := 39) (w1 := ((g0, .inr (5, [.ref (b 0), .ref u0, .ref (t 0), .int (N.1 0), .int (N.1 1), .int (N.1 2)])) :: ((wB E b N.2.1) ++ ((u0, .inr (3, [.ref u1, .int (nI N.2.2.1), .int N.2.2.2.1])) :: ((u1, .inl (eO E, 6, .inr (.inr (.inr (.inr (fun k => some (rr k 0))))))) :: ((wRg E rr N.2.2.2.2.1) ++ (wT E t N.2.2.2.2.2))))))) (pre := ((g0, .inr (5, [.ref (b 0), .ref u0, .ref (t 0), .int (N.1 0), .int (N.1 1), .int (N.1 2)])) :: ((wB E b N.2.1) ++ ((u0, .inr (3, [.ref u1, .int (nI N.2.2.1), .int N.2.2.2.1])) :: ((u1, .inl (eO E, 6, .inr (.inr (.inr (.inr (fun k => some (rr k 0))))))) :: (wRg E rr N.2.2.2.2.1)))))) (post := []) (As := []) (rest := [.int (nI i)]) (q0 := 0) ⟨hx, hb, hml, hown, hts⟩ hr4 (cwV 0 hts gX5_does_X4_orders rfl rfl rfl qvX4_orders ⟨Nat.le_of_ble_eq_true rfl, Nat.le_of_ble_eq_true rfl⟩) hK hP hD hS hA (by simp only [List.cons_append, List.append_assoc, List.nil_append, List.append_nil]) (by simp only [List.cons_append, List.append_assoc, List.nil_append, List.append_nil]) rfl rfl rfl hl.1 rfl (Nat.le_of_ble_eq_true rfl) dX5_does_39 ⟨Nat.zero_le _, Nat.zero_le _⟩ (fun H locs hP hD hS => ?_)
        refine lv_icmp_ge (tgt := 79) (pc := 42) hx hb dX5_does_42 (by decide) (fun c_5 => ?_) (fun c_5 => ?_)
        rotate_left
        · exact absurd (by rw [← er4]; show N.2.2.2.2.2.1 1 ≤ nI i; rw [hNo]; exact nI_le (by omega) (by omega)) c_5
        refine lv_aload_n (pc := 79) hx hb dX5_does_79 rfl (lv_at hl 0 rfl) ?_
        refine g_get (v := .ref u0) (pc := 80) hx hb hts ii_X5_does_X5 hown hK.1 hP 0 rfl rfl 1 (by decide) ⟨rfl, rfl, rfl⟩ mm_X5_does_2 rfl dX5_does_80 ?_
        obtain ⟨r6, er6⟩ : ∃ z : Nat × Int32, fX3_keepMarked N.2.2.1 N.2.2.2.1 = z := ⟨_, rfl⟩
        have hr6 := kX3_keepMarked l E u0 u1 N.2.2.1 N.2.2.2.1 hNj
        rw [er6] at hr6
        refine gcVv (pc := 83) (w1 := ((g0, .inr (5, [.ref (b 0), .ref u0, .ref (t 0), .int (N.1 0), .int (N.1 1), .int (N.1 2)])) :: ((wB E b N.2.1) ++ ((u0, .inr (3, [.ref u1, .int (nI r6.1), .int r6.2])) :: ((u1, .inl (eO E, 6, .inr (.inr (.inr (.inr (fun k => some (rr k 0))))))) :: ((wRg E rr N.2.2.2.2.1) ++ (wT E t N.2.2.2.2.2))))))) (pre := ((g0, .inr (5, [.ref (b 0), .ref u0, .ref (t 0), .int (N.1 0), .int (N.1 1), .int (N.1 2)])) :: (wB E b N.2.1))) (post := ((u1, .inl (eO E, 6, .inr (.inr (.inr (.inr (fun k => some (rr k 0))))))) :: ((wRg E rr N.2.2.2.2.1) ++ (wT E t N.2.2.2.2.2)))) (As := []) (rest := []) (q0 := 0) ⟨hx, hb, hml, hown, hts⟩ hr6 (cwV 0 hts gX5_does_X3_keepMarked rfl rfl rfl qvX3_keepMarked ⟨Nat.le_of_ble_eq_true rfl, Nat.le_of_ble_eq_true rfl⟩) hK hP hD hS hA (by simp only [List.cons_append, List.append_assoc, List.nil_append, List.append_nil]) (by simp only [List.cons_append, List.append_assoc, List.nil_append, List.append_nil]) rfl rfl rfl hl.1 rfl (Nat.le_of_ble_eq_true rfl) dX5_does_83 ⟨Nat.zero_le _, Nat.zero_le _⟩ (fun H locs hP hD hS => ?_)
        refine lv_aload_n (pc := 86) hx hb dX5_does_86 rfl (lv_at hl 0 rfl) ?_
        refine g_get (v := .ref (t 0)) (pc := 87) hx hb hts ii_X5_does_X5 hown hK.1 hP 0 rfl rfl 2 (by decide) ⟨rfl, rfl, rfl⟩ mm_X5_does_1 rfl dX5_does_87 ?_
        obtain ⟨r7, er7⟩ : ∃ z : Int32, fX4_orders N.2.2.2.2.2 = z := ⟨_, rfl⟩
        have hr7 := kX4_orders l E t N.2.2.2.2.2
        rw [er7] at hr7
        refine gcVi (pc := 90) (w1 := ((g0, .inr (5, [.ref (b 0), .ref u0, .ref (t 0), .int (N.1 0), .int (N.1 1), .int (N.1 2)])) :: ((wB E b N.2.1) ++ ((u0, .inr (3, [.ref u1, .int (nI r6.1), .int r6.2])) :: ((u1, .inl (eO E, 6, .inr (.inr (.inr (.inr (fun k => some (rr k 0))))))) :: ((wRg E rr N.2.2.2.2.1) ++ (wT E t N.2.2.2.2.2))))))) (pre := ((g0, .inr (5, [.ref (b 0), .ref u0, .ref (t 0), .int (N.1 0), .int (N.1 1), .int (N.1 2)])) :: ((wB E b N.2.1) ++ ((u0, .inr (3, [.ref u1, .int (nI r6.1), .int r6.2])) :: ((u1, .inl (eO E, 6, .inr (.inr (.inr (.inr (fun k => some (rr k 0))))))) :: (wRg E rr N.2.2.2.2.1)))))) (post := []) (As := []) (rest := []) (q0 := 0) ⟨hx, hb, hml, hown, hts⟩ hr7 (cwV 0 hts gX5_does_X4_orders rfl rfl rfl qvX4_orders ⟨Nat.le_of_ble_eq_true rfl, Nat.le_of_ble_eq_true rfl⟩) hK hP hD hS hA (by simp only [List.cons_append, List.append_assoc, List.nil_append, List.append_nil]) (by simp only [List.cons_append, List.append_assoc, List.nil_append, List.append_nil]) rfl rfl rfl hl.1 rfl (Nat.le_of_ble_eq_true rfl) dX5_does_90 ⟨Nat.zero_le _, Nat.zero_le _⟩ (fun H locs hP hD hS => ?_)
        subst er7
        subst er6
        subst er4
        rw [← hk] at hQ
        exact hQ _ _ _ _ _ rfl hP hD hS dX5_does_93
      | succ f ih =>
        intro i N hi hNj hNo hk H locs ls hP hD hS hl
        have hlt : i < (fX4_read G.2.2.2.2.2 n).2.1 := by omega
        have hor : 0 ≤ (N.2.2.2.2.2.1 1).toInt ∧ (N.2.2.2.2.2.1 1).toInt ≤ 40 := by rw [hNo, nI_toInt (by omega)]; omega
        have hob := ob_k N (nI i)
        refine lv_iload_n (pc := 34) hx hb dX5_does_34 rfl (lv_at hl 1 rfl) ?_
        refine lv_aload_n (pc := 35) hx hb dX5_does_35 rfl (lv_at hl 0 rfl) ?_
        refine g_get (v := .ref (t 0)) (pc := 36) hx hb hts ii_X5_does_X5 hown hK.1 hP 0 rfl rfl 2 (by decide) ⟨rfl, rfl, rfl⟩ mm_X5_does_1 rfl dX5_does_36 ?_
        obtain ⟨r8, er8⟩ : ∃ z : Int32, fX4_orders N.2.2.2.2.2 = z := ⟨_, rfl⟩
        have hr8 := kX4_orders l E t N.2.2.2.2.2
        rw [er8] at hr8
        refine gcVi (pc := 39) (w1 := ((g0, .inr (5, [.ref (b 0), .ref u0, .ref (t 0), .int (N.1 0), .int (N.1 1), .int (N.1 2)])) :: ((wB E b N.2.1) ++ ((u0, .inr (3, [.ref u1, .int (nI N.2.2.1), .int N.2.2.2.1])) :: ((u1, .inl (eO E, 6, .inr (.inr (.inr (.inr (fun k => some (rr k 0))))))) :: ((wRg E rr N.2.2.2.2.1) ++ (wT E t N.2.2.2.2.2))))))) (pre := ((g0, .inr (5, [.ref (b 0), .ref u0, .ref (t 0), .int (N.1 0), .int (N.1 1), .int (N.1 2)])) :: ((wB E b N.2.1) ++ ((u0, .inr (3, [.ref u1, .int (nI N.2.2.1), .int N.2.2.2.1])) :: ((u1, .inl (eO E, 6, .inr (.inr (.inr (.inr (fun k => some (rr k 0))))))) :: (wRg E rr N.2.2.2.2.1)))))) (post := []) (As := []) (rest := [.int (nI i)]) (q0 := 0) ⟨hx, hb, hml, hown, hts⟩ hr8 (cwV 0 hts gX5_does_X4_orders rfl rfl rfl qvX4_orders ⟨Nat.le_of_ble_eq_true rfl, Nat.le_of_ble_eq_true rfl⟩) hK hP hD hS hA (by simp only [List.cons_append, List.append_assoc, List.nil_append, List.append_nil]) (by simp only [List.cons_append, List.append_assoc, List.nil_append, List.append_nil]) rfl rfl rfl hl.1 rfl (Nat.le_of_ble_eq_true rfl) dX5_does_39 ⟨Nat.zero_le _, Nat.zero_le _⟩ (fun H locs hP hD hS => ?_)
        refine lv_icmp_ge (tgt := 79) (pc := 42) hx hb dX5_does_42 (by decide) (fun c_9 => ?_) (fun c_9 => ?_)
        · exact absurd c_9 (by rw [← er8]; show ¬ N.2.2.2.2.2.1 1 ≤ nI i; rw [hNo]; exact nI_ge hlt (by omega))
        refine lv_aload_n (pc := 45) hx hb dX5_does_45 rfl (lv_at hl 0 rfl) ?_
        refine lv_iload_n (pc := 46) hx hb dX5_does_46 rfl (lv_at hl 1 rfl) ?_
        obtain ⟨r10, er10⟩ : ∃ z : Int32 × (GS), fX5_obey N (nI i) = z := ⟨_, rfl⟩
        have hr10 := kX5_obey l E g0 b u0 u1 rr t N (nI i) hor
        rw [er10] at hr10
        refine gcVi0 (pc := 47) (w1 := ((g0, .inr (5, [.ref (b 0), .ref u0, .ref (t 0), .int (r10.2.1 0), .int (r10.2.1 1), .int (r10.2.1 2)])) :: ((wB E b r10.2.2.1) ++ ((u0, .inr (3, [.ref u1, .int (nI r10.2.2.2.1), .int r10.2.2.2.2.1])) :: ((u1, .inl (eO E, 6, .inr (.inr (.inr (.inr (fun k => some (rr k 0))))))) :: ((wRg E rr r10.2.2.2.2.2.1) ++ (wT E t r10.2.2.2.2.2.2))))))) (As := [.int (nI i)]) (rest := []) (q0 := 0) ⟨hx, hb, hml, hown, hts⟩ hr10 (cwV 1 hts gX5_does_X5_obey rfl rfl rfl qvX5_obey ⟨Nat.le_of_ble_eq_true rfl, Nat.le_of_ble_eq_true rfl⟩) hK hP hD hS hA rfl rfl rfl rfl rfl hl.1 rfl (Nat.le_of_ble_eq_true rfl) dX5_does_47 ⟨Nat.zero_le _, Nat.zero_le _⟩ (fun H locs hP hD hS => ?_)
        obtain ⟨r11, er11⟩ : ∃ z : Int32, fX5_isRefusal r10.1 = z := ⟨_, rfl⟩
        have hr11 := kX5_isRefusal l E r10.1
        rw [er11] at hr11
        refine gcSi (pc := 50) (As := [.int r10.1]) (rest := []) ⟨hx, hb, hml, hown, hts⟩ hr11 (cwS 1 hts gX5_does_X5_isRefusal rfl rfl rfl qsX5_isRefusal ⟨Nat.le_of_ble_eq_true rfl, Nat.le_of_ble_eq_true rfl⟩) hK hP hD hS hA rfl hl.1 rfl (Nat.le_of_ble_eq_true rfl) dX5_does_50 ⟨Nat.zero_le _, Nat.zero_le _⟩ (fun H locs hP hD hS => ?_)
        refine lv_if_eq (tgt := 73) (pc := 53) hx hb dX5_does_53 (by decide) (fun c_12 => ?_) (fun c_12 => ?_)
        · refine lv_iinc (v := nI (i + 1)) (lv' := [(1, .int (nI (i + 1))), (0, .ref g0)]) (pc := 73) hx hb dX5_does_73 hl (k := 1) rfl (nI_1 i) (by decide) rfl (fun ls hl => ?_)
          refine lv_goto (tgt := 34) (pc := 76) hx hb dX5_does_76 (by decide) ?_
          subst er11
          subst er10
          subst er8
          exact ih (i + 1) (fX5_obey N (nI i)).2 (by omega) (by rw [hob.1]; exact hNj) (by rw [hob.1]; exact hNo) ((show dcT (f + 1) i N = dcT f (i + 1) (fX5_obey N (nI i)).2 from if_pos c_12).symm.trans hk) _ _ _ hP hD hS (lv_sub hl [1, 0] rfl)
        · refine lv_aload_n (pc := 56) hx hb dX5_does_56 rfl (lv_at hl 0 rfl) ?_
          refine g_get (v := .ref u0) (pc := 57) hx hb hts ii_X5_does_X5 hown hK.1 hP 0 rfl rfl 1 (by decide) ⟨rfl, rfl, rfl⟩ mm_X5_does_2 rfl dX5_does_57 ?_
          refine lv_aload_n (pc := 60) hx hb dX5_does_60 rfl (lv_at hl 0 rfl) ?_
          refine g_get (v := .ref (b 0)) (pc := 61) hx hb hts ii_X5_does_X5 hown hK.1 hP 0 rfl rfl 0 (by decide) ⟨rfl, rfl, rfl⟩ mm_X5_does_3 rfl dX5_does_61 ?_
          obtain ⟨r13, er13⟩ : ∃ z : Bat, fX3_restoreMarked r10.2.2.1 r10.2.2.2.1 r10.2.2.2.2.1 r10.2.2.2.2.2.1 = z := ⟨_, rfl⟩
          have hr13 := kX3_restoreMarked l E b u0 u1 rr r10.2.2.1 r10.2.2.2.1 r10.2.2.2.2.1 r10.2.2.2.2.2.1 (by subst er10; rw [hob.1]; exact hNj)
          rw [er13] at hr13
          refine gcVv (pc := 64) (w1 := ((g0, .inr (5, [.ref (b 0), .ref u0, .ref (t 0), .int (r10.2.1 0), .int (r10.2.1 1), .int (r10.2.1 2)])) :: ((wB E b r13) ++ ((u0, .inr (3, [.ref u1, .int (nI r10.2.2.2.1), .int r10.2.2.2.2.1])) :: ((u1, .inl (eO E, 6, .inr (.inr (.inr (.inr (fun k => some (rr k 0))))))) :: ((wRg E rr r10.2.2.2.2.2.1) ++ (wT E t r10.2.2.2.2.2.2))))))) (pre := [(g0, .inr (5, [.ref (b 0), .ref u0, .ref (t 0), .int (r10.2.1 0), .int (r10.2.1 1), .int (r10.2.1 2)]))]) (post := (wT E t r10.2.2.2.2.2.2)) (As := [.ref (b 0)]) (rest := []) (q0 := 6) ⟨hx, hb, hml, hown, hts⟩ hr13 (cwV 1 hts gX5_does_X3_restoreMarked rfl rfl rfl qvX3_restoreMarked ⟨Nat.le_of_ble_eq_true rfl, Nat.le_of_ble_eq_true rfl⟩) hK hP hD hS hA (by simp only [List.cons_append, List.append_assoc, List.nil_append, List.append_nil]) (by simp only [List.cons_append, List.append_assoc, List.nil_append, List.append_nil]) rfl rfl rfl hl.1 rfl (Nat.le_of_ble_eq_true rfl) dX5_does_64 ⟨Nat.zero_le _, Nat.zero_le _⟩ (fun H locs hP hD hS => ?_)
          refine lv_sipush (v := (-1000)) (pc := 67) hx hb dX5_does_67 rfl ?_
          refine lv_iload_n (pc := 70) hx hb dX5_does_70 rfl (lv_at hl 1 rfl) ?_
          refine lv_isub (pc := 71) hx hb dX5_does_71 ?_
          subst er13
          subst er11
          subst er10
          subst er8
          have hfn2 : dcT (fX4_read G.2.2.2.2.2 n).2.1 0 (maG (rdG G n)) = ((-1000) - (nI i), reG (fX5_obey N (nI i)).2) := hk.symm.trans (if_neg c_12)
          rw [hfn2] at hQ
          exact hQ _ _ _ _ _ rfl hP hD hS dX5_does_72
    exact loop (fX4_read G.2.2.2.2.2 n).2.1 0 (maG (rdG G n)) (by omega) hj rfl rfl _ _ _ hP hD hS (lv_sub hl [1, 0] rfl)
  · refine lv_bipush (v := (-10)) (pc := 10) hx hb dX5_does_10 rfl ?_
    refine lv_aload_n (pc := 12) hx hb dX5_does_12 rfl (lv_at hl 0 rfl) ?_
    refine g_get (v := .ref (t 0)) (pc := 13) hx hb hts ii_X5_does_X5 hown hK.1 hP 0 rfl rfl 2 (by decide) ⟨rfl, rfl, rfl⟩ mm_X5_does_1 rfl dX5_does_13 ?_
    obtain ⟨r14, er14⟩ : ∃ z : Int32, fX4_place (rdX G.2.2.2.2.2 n r1.2) = z := ⟨_, rfl⟩
    have hr14 := kX4_place l E t (rdX G.2.2.2.2.2 n r1.2)
    rw [er14] at hr14
    refine gcVi (pc := 16) (w1 := ((g0, .inr (5, [.ref (b 0), .ref u0, .ref (t 0), .int (G.1 0), .int (G.1 1), .int (G.1 2)])) :: ((wB E b G.2.1) ++ ((u0, .inr (3, [.ref u1, .int (nI G.2.2.1), .int G.2.2.2.1])) :: ((u1, .inl (eO E, 6, .inr (.inr (.inr (.inr (fun k => some (rr k 0))))))) :: ((wRg E rr G.2.2.2.2.1) ++ (wT E t (rdX G.2.2.2.2.2 n r1.2)))))))) (pre := ((g0, .inr (5, [.ref (b 0), .ref u0, .ref (t 0), .int (G.1 0), .int (G.1 1), .int (G.1 2)])) :: ((wB E b G.2.1) ++ ((u0, .inr (3, [.ref u1, .int (nI G.2.2.1), .int G.2.2.2.1])) :: ((u1, .inl (eO E, 6, .inr (.inr (.inr (.inr (fun k => some (rr k 0))))))) :: (wRg E rr G.2.2.2.2.1)))))) (post := []) (As := []) (rest := [.int (-10)]) (q0 := 0) ⟨hx, hb, hml, hown, hts⟩ hr14 (cwV 0 hts gX5_does_X4_place rfl rfl rfl qvX4_place ⟨Nat.le_of_ble_eq_true rfl, Nat.le_of_ble_eq_true rfl⟩) hK hP hD hS hA (by simp only [List.cons_append, List.append_assoc, List.nil_append, List.append_nil]) (by simp only [List.cons_append, List.append_assoc, List.nil_append, List.append_nil]) rfl rfl rfl hl.1 rfl (Nat.le_of_ble_eq_true rfl) dX5_does_16 ⟨Nat.zero_le _, Nat.zero_le _⟩ (fun H locs hP hD hS => ?_)
    refine lv_isub (pc := 19) hx hb dX5_does_19 ?_
    subst er14
    subst er1
    have hfn : fX5_does G n = ((-10) - (fX4_place (rdX G.2.2.2.2.2 n (fX4_read G.2.2.2.2.2 n).2)), rdG G n) := if_pos c_2
    rw [hfn] at hQ
    exact hQ _ _ _ _ _ rfl hP hD hS dX5_does_20
