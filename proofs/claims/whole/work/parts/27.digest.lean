/-! the class's digest -/
noncomputable def lpHS (G : GS) (h : Int64) (n : Nat) : Int64 := it h (fun i q => lpH2 (fun k => ((fX5_band G (nI i) (nI k) 0).1).toInt64) (fun k => ((fX5_band G (nI i) (nI k) 1).1).toInt64) q 11) n
theorem lpHS_0 (G : GS) (h : Int64) : lpHS G h 0 = h := it_0 _ _
theorem lpHS_s (G : GS) (h : Int64) (i : Nat) : lpHS G h (i + 1) = lpH2 (fun k => ((fX5_band G (nI i) (nI k) 0).1).toInt64) (fun k => ((fX5_band G (nI i) (nI k) 1).1).toInt64) (lpHS G h i) 11 := it_s _ _ i

noncomputable def fX5_digest (G : GS) : Int64 :=
  let r16 : Int32 := fX5_bands G
  let x17 : Int64 := (31 * (lpH (fun i => ((fX5_setting G (nI i)).1).toInt64) (lpH (fun i => ((fX5_told G (nI i)).1).toInt64) (lpH (fun i => ((fX5_refused G (nI i)).1).toInt64) 1690 5) 12) 13)) + r16.toInt64
  (lpH2 (fun i => ((fX5_lasts G (nI (1 + i)) 0).1).toInt64) (fun i => ((fX5_lasts G (nI (1 + i)) 1).1).toInt64) (lpHS G x17 2) 3)
abbrev rX5_digest : Room := { frames := 5, cells := 0, slots := 0, locals := 112 }
theorem mm_X5_digest_1 : Cond.constantLong RX5 146 (1690) ∈ wsX5_digest := List.mem_of_getElem? (i := 1) rfl
theorem mm_X5_digest_2 : Cond.constantLong RX5 148 (31) ∈ wsX5_digest := List.mem_of_getElem? (i := 2) rfl
theorem qvX5_digest : yX5_digest.cls = RX5 ∧ yX5_digest.cls ≠ "java/lang/invoke/MethodHandle" ∧ yX5_digest.cls ≠ "java/lang/invoke/VarHandle" ∧ (parseMethodDescriptor yX5_digest.desc).map (fun d => d.parameters.length) = some 0 := by decide +kernel
set_option maxHeartbeats 4000000 in
set_option maxRecDepth 100000 in
theorem kX5_digest (l : Launch) (E : gEnv) (g0 : Nat) (b : Nat → Nat) (u0 u1 : Nat) (rr : Nat → Nat → Nat) (t : Nat → Nat) (G : GS) (ho : 0 ≤ (G.2.1.1 4).toInt ∧ (G.2.1.1 4).toInt ≤ 9) (hrf : ∀ i, i < 5 → (fX5_refused G (nI i)).2 = G) (hto : ∀ i, i < 12 → (fX5_told G (nI i)).2 = G) (hst : ∀ i, i < 13 → (fX5_setting G (nI i)).2 = G) (hbd : ∀ i k, i < 2 → k < 11 → (fX5_band G (nI i) (nI k) 0).2 = G ∧ (fX5_band G (nI i) (nI k) 1).2 = G) (hla : ∀ i, i < 3 → (fX5_lasts G (nI (1 + i)) 0).2 = G ∧ (fX5_lasts G (nI (1 + i)) 1).2 = G) : gMl l E yX5_digest wsX5_digest rX5_digest [.ref g0] (wG E g0 b u0 u1 rr t G) (fX5_digest G) (wG E g0 b u0 u1 rr t G) := by
  refine gMl_of (cc := cX5_digest) (maxL := 5) (ret := (some .long)) (by decide) rfl rfl (Nat.le_of_ble_eq_true rfl) ?_
  intro p e s m args below meth c A Q ls hB hQ
  obtain ⟨hx, hb, hml, hown, hts, hK, hP, hD, hA, hS, hl⟩ := hB
  have hown : s.vm.findClass RX5 = some m.cls := hown
  have hP : va_P E.1 vwCl ((g0, .inr (5, [.ref (b 0), .ref u0, .ref (t 0), .int (G.1 0), .int (G.1 1), .int (G.1 2)])) :: ((wB E b G.2.1) ++ ((u0, .inr (3, [.ref u1, .int (nI G.2.2.1), .int G.2.2.2.1])) :: ((u1, .inl (eO E, 6, .inr (.inr (.inr (.inr (fun k => some (rr k 0))))))) :: ((wRg E rr G.2.2.2.2.1) ++ (wT E t G.2.2.2.2.2)))))) s.heap := hP
  have hD : va_D A ((g0, .inr (5, [.ref (b 0), .ref u0, .ref (t 0), .int (G.1 0), .int (G.1 1), .int (G.1 2)])) :: ((wB E b G.2.1) ++ ((u0, .inr (3, [.ref u1, .int (nI G.2.2.1), .int G.2.2.2.1])) :: ((u1, .inl (eO E, 6, .inr (.inr (.inr (.inr (fun k => some (rr k 0))))))) :: ((wRg E rr G.2.2.2.2.1) ++ (wT E t G.2.2.2.2.2)))))) := hD
  have hl : lv_has ls 5 [(0, .ref g0)] := hl
  refine lv_ldc2 (v := (1690)) (pc := 0) hx hb hown (hts _ mm_X5_digest_1) dX5_digest_0 ?_
  refine lv_lstore_n (lv' := [(1, .long 1690), (0, .ref g0)]) (pc := 3) hx hb dX5_digest_3 rfl hl (by decide) rfl (fun ls hl => ?_)
  refine lv_iconst (v := 0) (pc := 4) hx hb dX5_digest_4 rfl ?_
  refine lv_istore_n (lv' := [(3, .int 0), (1, .long 1690), (0, .ref g0)]) (pc := 5) hx hb dX5_digest_5 rfl hl (by decide) rfl (fun ls hl => ?_)
  have loop4 : ∀ (n2 i1 : Nat), i1 + n2 = 5 → ∀ (H : Heap) (locs : List Loc) (ls : Array Slot), va_P E.1 vwCl ((g0, .inr (5, [.ref (b 0), .ref u0, .ref (t 0), .int (G.1 0), .int (G.1 1), .int (G.1 2)])) :: ((wB E b G.2.1) ++ ((u0, .inr (3, [.ref u1, .int (nI G.2.2.1), .int G.2.2.2.1])) :: ((u1, .inl (eO E, 6, .inr (.inr (.inr (.inr (fun k => some (rr k 0))))))) :: ((wRg E rr G.2.2.2.2.1) ++ (wT E t G.2.2.2.2.2)))))) H → va_D A ((g0, .inr (5, [.ref (b 0), .ref u0, .ref (t 0), .int (G.1 0), .int (G.1 1), .int (G.1 2)])) :: ((wB E b G.2.1) ++ ((u0, .inr (3, [.ref u1, .int (nI G.2.2.1), .int G.2.2.2.1])) :: ((u1, .inl (eO E, 6, .inr (.inr (.inr (.inr (fun k => some (rr k 0))))))) :: ((wRg E rr G.2.2.2.2.1) ++ (wT E t G.2.2.2.2.2)))))) → va_S A s.heap H locs → lv_has ls 5 [(0, .ref g0), (1, .long (lpH (fun i => ((fX5_refused G (nI i)).1).toInt64) 1690 i1)), (3, .int (nI i1))] → W p l e rX5_digest s m args below meth c H locs 0 0 Q (F0 m 6 ls []) := by
    intro n2
    induction n2 with
    | zero =>
      intro i1 hi H locs ls hP hD hS hl
      obtain rfl : i1 = 5 := by omega
      refine lv_iload_n (pc := 6) hx hb dX5_digest_6 rfl (lv_at hl 2 rfl) ?_
      refine lv_iconst (v := 5) (pc := 7) hx hb dX5_digest_7 rfl ?_
      refine lv_icmp_ge (tgt := 30) (pc := 8) hx hb dX5_digest_8 (by decide) (fun c_5 => ?_) (fun c_5 => ?_)
      rotate_left
      · exact absurd (nI_le (a := 5) (b := 5) (by decide) (by decide)) c_5
      refine lv_iconst (v := 0) (pc := 30) hx hb dX5_digest_30 rfl ?_
      refine lv_istore_n (lv' := [(3, .int 0), (0, .ref g0), (1, .long (lpH (fun i => ((fX5_refused G (nI i)).1).toInt64) 1690 5))]) (pc := 31) hx hb dX5_digest_31 rfl hl (by decide) rfl (fun ls hl => ?_)
      have loop9 : ∀ (n7 i6 : Nat), i6 + n7 = 12 → ∀ (H : Heap) (locs : List Loc) (ls : Array Slot), va_P E.1 vwCl ((g0, .inr (5, [.ref (b 0), .ref u0, .ref (t 0), .int (G.1 0), .int (G.1 1), .int (G.1 2)])) :: ((wB E b G.2.1) ++ ((u0, .inr (3, [.ref u1, .int (nI G.2.2.1), .int G.2.2.2.1])) :: ((u1, .inl (eO E, 6, .inr (.inr (.inr (.inr (fun k => some (rr k 0))))))) :: ((wRg E rr G.2.2.2.2.1) ++ (wT E t G.2.2.2.2.2)))))) H → va_D A ((g0, .inr (5, [.ref (b 0), .ref u0, .ref (t 0), .int (G.1 0), .int (G.1 1), .int (G.1 2)])) :: ((wB E b G.2.1) ++ ((u0, .inr (3, [.ref u1, .int (nI G.2.2.1), .int G.2.2.2.1])) :: ((u1, .inl (eO E, 6, .inr (.inr (.inr (.inr (fun k => some (rr k 0))))))) :: ((wRg E rr G.2.2.2.2.1) ++ (wT E t G.2.2.2.2.2)))))) → va_S A s.heap H locs → lv_has ls 5 [(0, .ref g0), (1, .long (lpH (fun i => ((fX5_told G (nI i)).1).toInt64) (lpH (fun i => ((fX5_refused G (nI i)).1).toInt64) 1690 5) i6)), (3, .int (nI i6))] → W p l e rX5_digest s m args below meth c H locs 0 0 Q (F0 m 32 ls []) := by
        intro n7
        induction n7 with
        | zero =>
          intro i6 hi H locs ls hP hD hS hl
          obtain rfl : i6 = 12 := by omega
          refine lv_iload_n (pc := 32) hx hb dX5_digest_32 rfl (lv_at hl 2 rfl) ?_
          refine lv_bipush (v := 12) (pc := 33) hx hb dX5_digest_33 rfl ?_
          refine lv_icmp_ge (tgt := 57) (pc := 35) hx hb dX5_digest_35 (by decide) (fun c_10 => ?_) (fun c_10 => ?_)
          rotate_left
          · exact absurd (nI_le (a := 12) (b := 12) (by decide) (by decide)) c_10
          refine lv_iconst (v := 0) (pc := 57) hx hb dX5_digest_57 rfl ?_
          refine lv_istore_n (lv' := [(3, .int 0), (0, .ref g0), (1, .long (lpH (fun i => ((fX5_told G (nI i)).1).toInt64) (lpH (fun i => ((fX5_refused G (nI i)).1).toInt64) 1690 5) 12))]) (pc := 58) hx hb dX5_digest_58 rfl hl (by decide) rfl (fun ls hl => ?_)
          have loop14 : ∀ (n12 i11 : Nat), i11 + n12 = 13 → ∀ (H : Heap) (locs : List Loc) (ls : Array Slot), va_P E.1 vwCl ((g0, .inr (5, [.ref (b 0), .ref u0, .ref (t 0), .int (G.1 0), .int (G.1 1), .int (G.1 2)])) :: ((wB E b G.2.1) ++ ((u0, .inr (3, [.ref u1, .int (nI G.2.2.1), .int G.2.2.2.1])) :: ((u1, .inl (eO E, 6, .inr (.inr (.inr (.inr (fun k => some (rr k 0))))))) :: ((wRg E rr G.2.2.2.2.1) ++ (wT E t G.2.2.2.2.2)))))) H → va_D A ((g0, .inr (5, [.ref (b 0), .ref u0, .ref (t 0), .int (G.1 0), .int (G.1 1), .int (G.1 2)])) :: ((wB E b G.2.1) ++ ((u0, .inr (3, [.ref u1, .int (nI G.2.2.1), .int G.2.2.2.1])) :: ((u1, .inl (eO E, 6, .inr (.inr (.inr (.inr (fun k => some (rr k 0))))))) :: ((wRg E rr G.2.2.2.2.1) ++ (wT E t G.2.2.2.2.2)))))) → va_S A s.heap H locs → lv_has ls 5 [(0, .ref g0), (1, .long (lpH (fun i => ((fX5_setting G (nI i)).1).toInt64) (lpH (fun i => ((fX5_told G (nI i)).1).toInt64) (lpH (fun i => ((fX5_refused G (nI i)).1).toInt64) 1690 5) 12) i11)), (3, .int (nI i11))] → W p l e rX5_digest s m args below meth c H locs 0 0 Q (F0 m 59 ls []) := by
            intro n12
            induction n12 with
            | zero =>
              intro i11 hi H locs ls hP hD hS hl
              obtain rfl : i11 = 13 := by omega
              refine lv_iload_n (pc := 59) hx hb dX5_digest_59 rfl (lv_at hl 2 rfl) ?_
              refine lv_bipush (v := 13) (pc := 60) hx hb dX5_digest_60 rfl ?_
              refine lv_icmp_ge (tgt := 84) (pc := 62) hx hb dX5_digest_62 (by decide) (fun c_15 => ?_) (fun c_15 => ?_)
              rotate_left
              · exact absurd (nI_le (a := 13) (b := 13) (by decide) (by decide)) c_15
              refine lv_ldc2 (v := (31)) (pc := 84) hx hb hown (hts _ mm_X5_digest_2) dX5_digest_84 ?_
              refine lv_lload_n (pc := 87) hx hb dX5_digest_87 rfl (lv_at hl 1 rfl) ?_
              refine lv_lmul (pc := 88) hx hb dX5_digest_88 ?_
              refine lv_aload_n (pc := 89) hx hb dX5_digest_89 rfl (lv_at hl 0 rfl) ?_
              obtain ⟨r16, er16⟩ : ∃ z : Int32, fX5_bands G = z := ⟨_, rfl⟩
              have hr16 := kX5_bands l E g0 b u0 u1 rr t G
              rw [er16] at hr16
              refine gcVi0 (pc := 90) (w1 := ((g0, .inr (5, [.ref (b 0), .ref u0, .ref (t 0), .int (G.1 0), .int (G.1 1), .int (G.1 2)])) :: ((wB E b G.2.1) ++ ((u0, .inr (3, [.ref u1, .int (nI G.2.2.1), .int G.2.2.2.1])) :: ((u1, .inl (eO E, 6, .inr (.inr (.inr (.inr (fun k => some (rr k 0))))))) :: ((wRg E rr G.2.2.2.2.1) ++ (wT E t G.2.2.2.2.2))))))) (As := []) (rest := [.long (31 * (lpH (fun i => ((fX5_setting G (nI i)).1).toInt64) (lpH (fun i => ((fX5_told G (nI i)).1).toInt64) (lpH (fun i => ((fX5_refused G (nI i)).1).toInt64) 1690 5) 12) 13))]) (q0 := 0) ⟨hx, hb, hml, hown, hts⟩ hr16 (cwV 0 hts gX5_digest_X5_bands rfl rfl rfl qvX5_bands ⟨Nat.le_of_ble_eq_true rfl, Nat.le_of_ble_eq_true rfl⟩) hK hP hD hS hA rfl rfl rfl rfl rfl hl.1 rfl (Nat.le_of_ble_eq_true rfl) dX5_digest_90 ⟨Nat.zero_le _, Nat.zero_le _⟩ (fun H locs hP hD hS => ?_)
              refine lv_i2l (v := r16.toInt64) (pc := 93) hx hb dX5_digest_93 rfl ?_
              refine lv_ladd (pc := 94) hx hb dX5_digest_94 ?_
              refine g_topl (fun x17 ex17 => ?_)
              refine lv_lstore_n (lv' := [(1, .long x17), (0, .ref g0), (3, .int (nI 13))]) (pc := 95) hx hb dX5_digest_95 rfl hl (by decide) rfl (fun ls hl => ?_)
              refine lv_iconst (v := 0) (pc := 96) hx hb dX5_digest_96 rfl ?_
              refine lv_istore_n (lv' := [(3, .int 0), (1, .long x17), (0, .ref g0)]) (pc := 97) hx hb dX5_digest_97 rfl hl (by decide) rfl (fun ls hl => ?_)
              have loop21 : ∀ (n19 i18 : Nat), i18 + n19 = 2 → ∀ (H : Heap) (locs : List Loc) (ls : Array Slot), va_P E.1 vwCl ((g0, .inr (5, [.ref (b 0), .ref u0, .ref (t 0), .int (G.1 0), .int (G.1 1), .int (G.1 2)])) :: ((wB E b G.2.1) ++ ((u0, .inr (3, [.ref u1, .int (nI G.2.2.1), .int G.2.2.2.1])) :: ((u1, .inl (eO E, 6, .inr (.inr (.inr (.inr (fun k => some (rr k 0))))))) :: ((wRg E rr G.2.2.2.2.1) ++ (wT E t G.2.2.2.2.2)))))) H → va_D A ((g0, .inr (5, [.ref (b 0), .ref u0, .ref (t 0), .int (G.1 0), .int (G.1 1), .int (G.1 2)])) :: ((wB E b G.2.1) ++ ((u0, .inr (3, [.ref u1, .int (nI G.2.2.1), .int G.2.2.2.1])) :: ((u1, .inl (eO E, 6, .inr (.inr (.inr (.inr (fun k => some (rr k 0))))))) :: ((wRg E rr G.2.2.2.2.1) ++ (wT E t G.2.2.2.2.2)))))) → va_S A s.heap H locs → lv_has ls 5 [(0, .ref g0), (1, .long (lpHS G x17 i18)), (3, .int (nI i18))] → W p l e rX5_digest s m args below meth c H locs 0 0 Q (F0 m 98 ls []) := by
                intro n19
                induction n19 with
                | zero =>
                  intro i18 hi H locs ls hP hD hS hl
                  obtain rfl : i18 = 2 := by omega
                  refine lv_iload_n (pc := 98) hx hb dX5_digest_98 rfl (lv_at hl 2 rfl) ?_
                  refine lv_iconst (v := 2) (pc := 99) hx hb dX5_digest_99 rfl ?_
                  refine lv_icmp_ge (tgt := 157) (pc := 100) hx hb dX5_digest_100 (by decide) (fun c_22 => ?_) (fun c_22 => ?_)
                  rotate_left
                  · exact absurd (nI_le (a := 2) (b := 2) (by decide) (by decide)) c_22
                  refine lv_iconst (v := 1) (pc := 157) hx hb dX5_digest_157 rfl ?_
                  refine lv_istore_n (lv' := [(3, .int 1), (0, .ref g0), (1, .long (lpHS G x17 2))]) (pc := 158) hx hb dX5_digest_158 rfl hl (by decide) rfl (fun ls hl => ?_)
                  have loop26 : ∀ (n24 i23 : Nat), i23 + n24 = 3 → ∀ (H : Heap) (locs : List Loc) (ls : Array Slot), va_P E.1 vwCl ((g0, .inr (5, [.ref (b 0), .ref u0, .ref (t 0), .int (G.1 0), .int (G.1 1), .int (G.1 2)])) :: ((wB E b G.2.1) ++ ((u0, .inr (3, [.ref u1, .int (nI G.2.2.1), .int G.2.2.2.1])) :: ((u1, .inl (eO E, 6, .inr (.inr (.inr (.inr (fun k => some (rr k 0))))))) :: ((wRg E rr G.2.2.2.2.1) ++ (wT E t G.2.2.2.2.2)))))) H → va_D A ((g0, .inr (5, [.ref (b 0), .ref u0, .ref (t 0), .int (G.1 0), .int (G.1 1), .int (G.1 2)])) :: ((wB E b G.2.1) ++ ((u0, .inr (3, [.ref u1, .int (nI G.2.2.1), .int G.2.2.2.1])) :: ((u1, .inl (eO E, 6, .inr (.inr (.inr (.inr (fun k => some (rr k 0))))))) :: ((wRg E rr G.2.2.2.2.1) ++ (wT E t G.2.2.2.2.2)))))) → va_S A s.heap H locs → lv_has ls 5 [(0, .ref g0), (1, .long (lpH2 (fun i => ((fX5_lasts G (nI (1 + i)) 0).1).toInt64) (fun i => ((fX5_lasts G (nI (1 + i)) 1).1).toInt64) (lpHS G x17 2) i23)), (3, .int (nI (1 + i23)))] → W p l e rX5_digest s m args below meth c H locs 0 0 Q (F0 m 159 ls []) := by
                    intro n24
                    induction n24 with
                    | zero =>
                      intro i23 hi H locs ls hP hD hS hl
                      obtain rfl : i23 = 3 := by omega
                      refine lv_iload_n (pc := 159) hx hb dX5_digest_159 rfl (lv_at hl 2 rfl) ?_
                      refine lv_iconst (v := 3) (pc := 160) hx hb dX5_digest_160 rfl ?_
                      refine lv_icmp_gt (tgt := 198) (pc := 161) hx hb dX5_digest_161 (by decide) (fun c_27 => ?_) (fun c_27 => ?_)
                      rotate_left
                      · exact absurd (nI_lt (a := 3) (b := 4) (by decide) (by decide)) c_27
                      refine lv_lload_n (pc := 198) hx hb dX5_digest_198 rfl (lv_at hl 1 rfl) ?_
                      have hfn : fX5_digest G = (lpH2 (fun i => ((fX5_lasts G (nI (1 + i)) 0).1).toInt64) (fun i => ((fX5_lasts G (nI (1 + i)) 1).1).toInt64) (lpHS G x17 2) 3) := by
                        subst ex17
                        subst er16
                        exact rfl
                      rw [hfn] at hQ
                      exact hQ _ _ _ _ _ rfl hP hD hS dX5_digest_199
                    | succ n24 ih25 =>
                      intro i23 hi H locs ls hP hD hS hl
                      have hlt : i23 < 3 := by omega
                      refine lv_iload_n (pc := 159) hx hb dX5_digest_159 rfl (lv_at hl 2 rfl) ?_
                      refine lv_iconst (v := 3) (pc := 160) hx hb dX5_digest_160 rfl ?_
                      refine lv_icmp_gt (tgt := 198) (pc := 161) hx hb dX5_digest_161 (by decide) (fun c_28 => ?_) (fun c_28 => ?_)
                      · exact absurd c_28 (nI_nlt (a := 3) (b := (1 + i23)) (by omega) (by decide))
                      refine lv_ldc2 (v := (31)) (pc := 164) hx hb hown (hts _ mm_X5_digest_2) dX5_digest_164 ?_
                      refine lv_lload_n (pc := 167) hx hb dX5_digest_167 rfl (lv_at hl 1 rfl) ?_
                      refine lv_lmul (pc := 168) hx hb dX5_digest_168 ?_
                      refine lv_aload_n (pc := 169) hx hb dX5_digest_169 rfl (lv_at hl 0 rfl) ?_
                      refine lv_iload_n (pc := 170) hx hb dX5_digest_170 rfl (lv_at hl 2 rfl) ?_
                      refine lv_iconst (v := 0) (pc := 171) hx hb dX5_digest_171 rfl ?_
                      have hr29 := kX5_lasts l E g0 b u0 u1 rr t G (nI (1 + i23)) 0 ho
                      rw [(hla i23 (by omega)).1] at hr29
                      refine gcVi0 (pc := 172) (w1 := ((g0, .inr (5, [.ref (b 0), .ref u0, .ref (t 0), .int (G.1 0), .int (G.1 1), .int (G.1 2)])) :: ((wB E b G.2.1) ++ ((u0, .inr (3, [.ref u1, .int (nI G.2.2.1), .int G.2.2.2.1])) :: ((u1, .inl (eO E, 6, .inr (.inr (.inr (.inr (fun k => some (rr k 0))))))) :: ((wRg E rr G.2.2.2.2.1) ++ (wT E t G.2.2.2.2.2))))))) (As := [.int (nI (1 + i23)), .int 0]) (rest := [.long (31 * (lpH2 (fun i => ((fX5_lasts G (nI (1 + i)) 0).1).toInt64) (fun i => ((fX5_lasts G (nI (1 + i)) 1).1).toInt64) (lpHS G x17 2) i23))]) (q0 := 0) ⟨hx, hb, hml, hown, hts⟩ hr29 (cwV 2 hts gX5_digest_X5_lasts rfl rfl rfl qvX5_lasts ⟨Nat.le_of_ble_eq_true rfl, Nat.le_of_ble_eq_true rfl⟩) hK hP hD hS hA rfl rfl rfl rfl rfl hl.1 rfl (Nat.le_of_ble_eq_true rfl) dX5_digest_172 ⟨Nat.zero_le _, Nat.zero_le _⟩ (fun H locs hP hD hS => ?_)
                      refine lv_i2l (v := ((fX5_lasts G (nI (1 + i23)) 0).1).toInt64) (pc := 175) hx hb dX5_digest_175 rfl ?_
                      refine lv_ladd (pc := 176) hx hb dX5_digest_176 ?_
                      refine g_topl (fun x30 ex30 => ?_)
                      refine lv_lstore_n (lv' := [(1, .long x30), (0, .ref g0), (3, .int (nI (1 + i23)))]) (pc := 177) hx hb dX5_digest_177 rfl hl (by decide) rfl (fun ls hl => ?_)
                      refine lv_ldc2 (v := (31)) (pc := 178) hx hb hown (hts _ mm_X5_digest_2) dX5_digest_178 ?_
                      refine lv_lload_n (pc := 181) hx hb dX5_digest_181 rfl (lv_at hl 0 rfl) ?_
                      refine lv_lmul (pc := 182) hx hb dX5_digest_182 ?_
                      refine lv_aload_n (pc := 183) hx hb dX5_digest_183 rfl (lv_at hl 1 rfl) ?_
                      refine lv_iload_n (pc := 184) hx hb dX5_digest_184 rfl (lv_at hl 2 rfl) ?_
                      refine lv_iconst (v := 1) (pc := 185) hx hb dX5_digest_185 rfl ?_
                      have hr31 := kX5_lasts l E g0 b u0 u1 rr t G (nI (1 + i23)) 1 ho
                      rw [(hla i23 (by omega)).2] at hr31
                      refine gcVi0 (pc := 186) (w1 := ((g0, .inr (5, [.ref (b 0), .ref u0, .ref (t 0), .int (G.1 0), .int (G.1 1), .int (G.1 2)])) :: ((wB E b G.2.1) ++ ((u0, .inr (3, [.ref u1, .int (nI G.2.2.1), .int G.2.2.2.1])) :: ((u1, .inl (eO E, 6, .inr (.inr (.inr (.inr (fun k => some (rr k 0))))))) :: ((wRg E rr G.2.2.2.2.1) ++ (wT E t G.2.2.2.2.2))))))) (As := [.int (nI (1 + i23)), .int 1]) (rest := [.long (31 * x30)]) (q0 := 0) ⟨hx, hb, hml, hown, hts⟩ hr31 (cwV 2 hts gX5_digest_X5_lasts rfl rfl rfl qvX5_lasts ⟨Nat.le_of_ble_eq_true rfl, Nat.le_of_ble_eq_true rfl⟩) hK hP hD hS hA rfl rfl rfl rfl rfl hl.1 rfl (Nat.le_of_ble_eq_true rfl) dX5_digest_186 ⟨Nat.zero_le _, Nat.zero_le _⟩ (fun H locs hP hD hS => ?_)
                      refine lv_i2l (v := ((fX5_lasts G (nI (1 + i23)) 1).1).toInt64) (pc := 189) hx hb dX5_digest_189 rfl ?_
                      refine lv_ladd (pc := 190) hx hb dX5_digest_190 ?_
                      refine g_topl (fun x32 ex32 => ?_)
                      refine lv_lstore_n (lv' := [(1, .long x32), (0, .ref g0), (3, .int (nI (1 + i23)))]) (pc := 191) hx hb dX5_digest_191 rfl hl (by decide) rfl (fun ls hl => ?_)
                      refine lv_iinc (v := nI (1 + (i23 + 1))) (lv' := [(3, .int (nI (1 + (i23 + 1)))), (1, .long x32), (0, .ref g0)]) (pc := 192) hx hb dX5_digest_192 hl (k := 2) rfl (nI_1 (1 + i23)) (by decide) rfl (fun ls hl => ?_)
                      refine lv_goto (tgt := 159) (pc := 195) hx hb dX5_digest_195 (by decide) ?_
                      subst ex32
                      subst ex30
                      exact ih25 (i23 + 1) (by omega) _ _ _ hP hD hS (lv_sub hl [2, 1, 0] (by rw [lpH2_s _ _ _ i23]; rfl))
                  exact loop26 3 0 (by decide) _ _ _ hP hD hS (lv_sub hl [1, 2, 0] (by rw [lpH2_0]; rfl))
                | succ n19 ih20 =>
                  intro i18 hi H locs ls hP hD hS hl
                  have hlt : i18 < 2 := by omega
                  refine lv_iload_n (pc := 98) hx hb dX5_digest_98 rfl (lv_at hl 2 rfl) ?_
                  refine lv_iconst (v := 2) (pc := 99) hx hb dX5_digest_99 rfl ?_
                  refine lv_icmp_ge (tgt := 157) (pc := 100) hx hb dX5_digest_100 (by decide) (fun c_33 => ?_) (fun c_33 => ?_)
                  · exact absurd c_33 (nI_ge (a := i18) (b := 2) (by omega) (by decide))
                  refine lv_iconst (v := 0) (pc := 103) hx hb dX5_digest_103 rfl ?_
                  refine lv_istore (lv' := [(4, .int 0), (0, .ref g0), (1, .long (lpHS G x17 i18)), (3, .int (nI i18))]) (pc := 104) hx hb dX5_digest_104 hl (by decide) rfl (fun ls hl => ?_)
                  have loop37 : ∀ (n35 i34 : Nat), i34 + n35 = 11 → ∀ (H : Heap) (locs : List Loc) (ls : Array Slot), va_P E.1 vwCl ((g0, .inr (5, [.ref (b 0), .ref u0, .ref (t 0), .int (G.1 0), .int (G.1 1), .int (G.1 2)])) :: ((wB E b G.2.1) ++ ((u0, .inr (3, [.ref u1, .int (nI G.2.2.1), .int G.2.2.2.1])) :: ((u1, .inl (eO E, 6, .inr (.inr (.inr (.inr (fun k => some (rr k 0))))))) :: ((wRg E rr G.2.2.2.2.1) ++ (wT E t G.2.2.2.2.2)))))) H → va_D A ((g0, .inr (5, [.ref (b 0), .ref u0, .ref (t 0), .int (G.1 0), .int (G.1 1), .int (G.1 2)])) :: ((wB E b G.2.1) ++ ((u0, .inr (3, [.ref u1, .int (nI G.2.2.1), .int G.2.2.2.1])) :: ((u1, .inl (eO E, 6, .inr (.inr (.inr (.inr (fun k => some (rr k 0))))))) :: ((wRg E rr G.2.2.2.2.1) ++ (wT E t G.2.2.2.2.2)))))) → va_S A s.heap H locs → lv_has ls 5 [(0, .ref g0), (1, .long (lpH2 (fun k => ((fX5_band G (nI i18) (nI k) 0).1).toInt64) (fun k => ((fX5_band G (nI i18) (nI k) 1).1).toInt64) (lpHS G x17 i18) i34)), (3, .int (nI i18)), (4, .int (nI i34))] → W p l e rX5_digest s m args below meth c H locs 0 0 Q (F0 m 106 ls []) := by
                    intro n35
                    induction n35 with
                    | zero =>
                      intro i34 hi H locs ls hP hD hS hl
                      obtain rfl : i34 = 11 := by omega
                      refine lv_iload (pc := 106) hx hb dX5_digest_106 (lv_at hl 3 rfl) ?_
                      refine lv_bipush (v := 11) (pc := 108) hx hb dX5_digest_108 rfl ?_
                      refine lv_icmp_ge (tgt := 151) (pc := 110) hx hb dX5_digest_110 (by decide) (fun c_38 => ?_) (fun c_38 => ?_)
                      rotate_left
                      · exact absurd (nI_le (a := 11) (b := 11) (by decide) (by decide)) c_38
                      refine lv_iinc (v := nI (i18 + 1)) (lv' := [(3, .int (nI (i18 + 1))), (0, .ref g0), (1, .long (lpH2 (fun k => ((fX5_band G (nI i18) (nI k) 0).1).toInt64) (fun k => ((fX5_band G (nI i18) (nI k) 1).1).toInt64) (lpHS G x17 i18) 11)), (4, .int (nI 11))]) (pc := 151) hx hb dX5_digest_151 hl (k := 2) rfl (nI_1 i18) (by decide) rfl (fun ls hl => ?_)
                      refine lv_goto (tgt := 98) (pc := 154) hx hb dX5_digest_154 (by decide) ?_
                      exact ih20 (i18 + 1) (by omega) _ _ _ hP hD hS (lv_sub hl [1, 2, 0] (by rw [lpHS_s _ _ i18]; rfl))
                    | succ n35 ih36 =>
                      intro i34 hi H locs ls hP hD hS hl
                      have hlt : i34 < 11 := by omega
                      refine lv_iload (pc := 106) hx hb dX5_digest_106 (lv_at hl 3 rfl) ?_
                      refine lv_bipush (v := 11) (pc := 108) hx hb dX5_digest_108 rfl ?_
                      refine lv_icmp_ge (tgt := 151) (pc := 110) hx hb dX5_digest_110 (by decide) (fun c_39 => ?_) (fun c_39 => ?_)
                      · exact absurd c_39 (nI_ge (a := i34) (b := 11) (by omega) (by decide))
                      refine lv_ldc2 (v := (31)) (pc := 113) hx hb hown (hts _ mm_X5_digest_2) dX5_digest_113 ?_
                      refine lv_lload_n (pc := 116) hx hb dX5_digest_116 rfl (lv_at hl 1 rfl) ?_
                      refine lv_lmul (pc := 117) hx hb dX5_digest_117 ?_
                      refine lv_aload_n (pc := 118) hx hb dX5_digest_118 rfl (lv_at hl 0 rfl) ?_
                      refine lv_iload_n (pc := 119) hx hb dX5_digest_119 rfl (lv_at hl 2 rfl) ?_
                      refine lv_iload (pc := 120) hx hb dX5_digest_120 (lv_at hl 3 rfl) ?_
                      refine lv_iconst (v := 0) (pc := 122) hx hb dX5_digest_122 rfl ?_
                      have hr40 := kX5_band l E g0 b u0 u1 rr t G (nI i18) (nI i34) 0
                      rw [(hbd i18 i34 (by omega) (by omega)).1] at hr40
                      refine gcVi0 (pc := 123) (w1 := ((g0, .inr (5, [.ref (b 0), .ref u0, .ref (t 0), .int (G.1 0), .int (G.1 1), .int (G.1 2)])) :: ((wB E b G.2.1) ++ ((u0, .inr (3, [.ref u1, .int (nI G.2.2.1), .int G.2.2.2.1])) :: ((u1, .inl (eO E, 6, .inr (.inr (.inr (.inr (fun k => some (rr k 0))))))) :: ((wRg E rr G.2.2.2.2.1) ++ (wT E t G.2.2.2.2.2))))))) (As := [.int (nI i18), .int (nI i34), .int 0]) (rest := [.long (31 * (lpH2 (fun k => ((fX5_band G (nI i18) (nI k) 0).1).toInt64) (fun k => ((fX5_band G (nI i18) (nI k) 1).1).toInt64) (lpHS G x17 i18) i34))]) (q0 := 0) ⟨hx, hb, hml, hown, hts⟩ hr40 (cwV 3 hts gX5_digest_X5_band rfl rfl rfl qvX5_band ⟨Nat.le_of_ble_eq_true rfl, Nat.le_of_ble_eq_true rfl⟩) hK hP hD hS hA rfl rfl rfl rfl rfl hl.1 rfl (Nat.le_of_ble_eq_true rfl) dX5_digest_123 ⟨Nat.zero_le _, Nat.zero_le _⟩ (fun H locs hP hD hS => ?_)
                      refine lv_i2l (v := ((fX5_band G (nI i18) (nI i34) 0).1).toInt64) (pc := 126) hx hb dX5_digest_126 rfl ?_
                      refine lv_ladd (pc := 127) hx hb dX5_digest_127 ?_
                      refine g_topl (fun x41 ex41 => ?_)
                      refine lv_lstore_n (lv' := [(1, .long x41), (0, .ref g0), (3, .int (nI i18)), (4, .int (nI i34))]) (pc := 128) hx hb dX5_digest_128 rfl hl (by decide) rfl (fun ls hl => ?_)
                      refine lv_ldc2 (v := (31)) (pc := 129) hx hb hown (hts _ mm_X5_digest_2) dX5_digest_129 ?_
                      refine lv_lload_n (pc := 132) hx hb dX5_digest_132 rfl (lv_at hl 0 rfl) ?_
                      refine lv_lmul (pc := 133) hx hb dX5_digest_133 ?_
                      refine lv_aload_n (pc := 134) hx hb dX5_digest_134 rfl (lv_at hl 1 rfl) ?_
                      refine lv_iload_n (pc := 135) hx hb dX5_digest_135 rfl (lv_at hl 2 rfl) ?_
                      refine lv_iload (pc := 136) hx hb dX5_digest_136 (lv_at hl 3 rfl) ?_
                      refine lv_iconst (v := 1) (pc := 138) hx hb dX5_digest_138 rfl ?_
                      have hr42 := kX5_band l E g0 b u0 u1 rr t G (nI i18) (nI i34) 1
                      rw [(hbd i18 i34 (by omega) (by omega)).2] at hr42
                      refine gcVi0 (pc := 139) (w1 := ((g0, .inr (5, [.ref (b 0), .ref u0, .ref (t 0), .int (G.1 0), .int (G.1 1), .int (G.1 2)])) :: ((wB E b G.2.1) ++ ((u0, .inr (3, [.ref u1, .int (nI G.2.2.1), .int G.2.2.2.1])) :: ((u1, .inl (eO E, 6, .inr (.inr (.inr (.inr (fun k => some (rr k 0))))))) :: ((wRg E rr G.2.2.2.2.1) ++ (wT E t G.2.2.2.2.2))))))) (As := [.int (nI i18), .int (nI i34), .int 1]) (rest := [.long (31 * x41)]) (q0 := 0) ⟨hx, hb, hml, hown, hts⟩ hr42 (cwV 3 hts gX5_digest_X5_band rfl rfl rfl qvX5_band ⟨Nat.le_of_ble_eq_true rfl, Nat.le_of_ble_eq_true rfl⟩) hK hP hD hS hA rfl rfl rfl rfl rfl hl.1 rfl (Nat.le_of_ble_eq_true rfl) dX5_digest_139 ⟨Nat.zero_le _, Nat.zero_le _⟩ (fun H locs hP hD hS => ?_)
                      refine lv_i2l (v := ((fX5_band G (nI i18) (nI i34) 1).1).toInt64) (pc := 142) hx hb dX5_digest_142 rfl ?_
                      refine lv_ladd (pc := 143) hx hb dX5_digest_143 ?_
                      refine g_topl (fun x43 ex43 => ?_)
                      refine lv_lstore_n (lv' := [(1, .long x43), (0, .ref g0), (3, .int (nI i18)), (4, .int (nI i34))]) (pc := 144) hx hb dX5_digest_144 rfl hl (by decide) rfl (fun ls hl => ?_)
                      refine lv_iinc (v := nI (i34 + 1)) (lv' := [(4, .int (nI (i34 + 1))), (1, .long x43), (0, .ref g0), (3, .int (nI i18))]) (pc := 145) hx hb dX5_digest_145 hl (k := 3) rfl (nI_1 i34) (by decide) rfl (fun ls hl => ?_)
                      refine lv_goto (tgt := 106) (pc := 148) hx hb dX5_digest_148 (by decide) ?_
                      subst ex43
                      subst ex41
                      exact ih36 (i34 + 1) (by omega) _ _ _ hP hD hS (lv_sub hl [2, 1, 3, 0] (by rw [lpH2_s _ _ _ i34]; rfl))
                  exact loop37 11 0 (by decide) _ _ _ hP hD hS (lv_sub hl [1, 2, 3, 0] (by rw [lpH2_0]; rfl))
              exact loop21 2 0 (by decide) _ _ _ hP hD hS (lv_sub hl [2, 1, 0] (by rw [lpHS_0]; rfl))
            | succ n12 ih13 =>
              intro i11 hi H locs ls hP hD hS hl
              have hlt : i11 < 13 := by omega
              refine lv_iload_n (pc := 59) hx hb dX5_digest_59 rfl (lv_at hl 2 rfl) ?_
              refine lv_bipush (v := 13) (pc := 60) hx hb dX5_digest_60 rfl ?_
              refine lv_icmp_ge (tgt := 84) (pc := 62) hx hb dX5_digest_62 (by decide) (fun c_44 => ?_) (fun c_44 => ?_)
              · exact absurd c_44 (nI_ge (a := i11) (b := 13) (by omega) (by decide))
              refine lv_ldc2 (v := (31)) (pc := 65) hx hb hown (hts _ mm_X5_digest_2) dX5_digest_65 ?_
              refine lv_lload_n (pc := 68) hx hb dX5_digest_68 rfl (lv_at hl 1 rfl) ?_
              refine lv_lmul (pc := 69) hx hb dX5_digest_69 ?_
              refine lv_aload_n (pc := 70) hx hb dX5_digest_70 rfl (lv_at hl 0 rfl) ?_
              refine lv_iload_n (pc := 71) hx hb dX5_digest_71 rfl (lv_at hl 2 rfl) ?_
              have hr45 := kX5_setting l E g0 b u0 u1 rr t G (nI i11)
              rw [hst i11 (by omega)] at hr45
              refine gcVi0 (pc := 72) (w1 := ((g0, .inr (5, [.ref (b 0), .ref u0, .ref (t 0), .int (G.1 0), .int (G.1 1), .int (G.1 2)])) :: ((wB E b G.2.1) ++ ((u0, .inr (3, [.ref u1, .int (nI G.2.2.1), .int G.2.2.2.1])) :: ((u1, .inl (eO E, 6, .inr (.inr (.inr (.inr (fun k => some (rr k 0))))))) :: ((wRg E rr G.2.2.2.2.1) ++ (wT E t G.2.2.2.2.2))))))) (As := [.int (nI i11)]) (rest := [.long (31 * (lpH (fun i => ((fX5_setting G (nI i)).1).toInt64) (lpH (fun i => ((fX5_told G (nI i)).1).toInt64) (lpH (fun i => ((fX5_refused G (nI i)).1).toInt64) 1690 5) 12) i11))]) (q0 := 0) ⟨hx, hb, hml, hown, hts⟩ hr45 (cwV 1 hts gX5_digest_X5_setting rfl rfl rfl qvX5_setting ⟨Nat.le_of_ble_eq_true rfl, Nat.le_of_ble_eq_true rfl⟩) hK hP hD hS hA rfl rfl rfl rfl rfl hl.1 rfl (Nat.le_of_ble_eq_true rfl) dX5_digest_72 ⟨Nat.zero_le _, Nat.zero_le _⟩ (fun H locs hP hD hS => ?_)
              refine lv_i2l (v := ((fX5_setting G (nI i11)).1).toInt64) (pc := 75) hx hb dX5_digest_75 rfl ?_
              refine lv_ladd (pc := 76) hx hb dX5_digest_76 ?_
              refine g_topl (fun x46 ex46 => ?_)
              refine lv_lstore_n (lv' := [(1, .long x46), (0, .ref g0), (3, .int (nI i11))]) (pc := 77) hx hb dX5_digest_77 rfl hl (by decide) rfl (fun ls hl => ?_)
              refine lv_iinc (v := nI (i11 + 1)) (lv' := [(3, .int (nI (i11 + 1))), (1, .long x46), (0, .ref g0)]) (pc := 78) hx hb dX5_digest_78 hl (k := 2) rfl (nI_1 i11) (by decide) rfl (fun ls hl => ?_)
              refine lv_goto (tgt := 59) (pc := 81) hx hb dX5_digest_81 (by decide) ?_
              subst ex46
              exact ih13 (i11 + 1) (by omega) _ _ _ hP hD hS (lv_sub hl [2, 1, 0] (by rw [lpH_s _ _ i11]; rfl))
          exact loop14 13 0 (by decide) _ _ _ hP hD hS (lv_sub hl [1, 2, 0] (by rw [lpH_0]; rfl))
        | succ n7 ih8 =>
          intro i6 hi H locs ls hP hD hS hl
          have hlt : i6 < 12 := by omega
          refine lv_iload_n (pc := 32) hx hb dX5_digest_32 rfl (lv_at hl 2 rfl) ?_
          refine lv_bipush (v := 12) (pc := 33) hx hb dX5_digest_33 rfl ?_
          refine lv_icmp_ge (tgt := 57) (pc := 35) hx hb dX5_digest_35 (by decide) (fun c_47 => ?_) (fun c_47 => ?_)
          · exact absurd c_47 (nI_ge (a := i6) (b := 12) (by omega) (by decide))
          refine lv_ldc2 (v := (31)) (pc := 38) hx hb hown (hts _ mm_X5_digest_2) dX5_digest_38 ?_
          refine lv_lload_n (pc := 41) hx hb dX5_digest_41 rfl (lv_at hl 1 rfl) ?_
          refine lv_lmul (pc := 42) hx hb dX5_digest_42 ?_
          refine lv_aload_n (pc := 43) hx hb dX5_digest_43 rfl (lv_at hl 0 rfl) ?_
          refine lv_iload_n (pc := 44) hx hb dX5_digest_44 rfl (lv_at hl 2 rfl) ?_
          have hr48 := kX5_told l E g0 b u0 u1 rr t G (nI i6)
          rw [hto i6 (by omega)] at hr48
          refine gcVi0 (pc := 45) (w1 := ((g0, .inr (5, [.ref (b 0), .ref u0, .ref (t 0), .int (G.1 0), .int (G.1 1), .int (G.1 2)])) :: ((wB E b G.2.1) ++ ((u0, .inr (3, [.ref u1, .int (nI G.2.2.1), .int G.2.2.2.1])) :: ((u1, .inl (eO E, 6, .inr (.inr (.inr (.inr (fun k => some (rr k 0))))))) :: ((wRg E rr G.2.2.2.2.1) ++ (wT E t G.2.2.2.2.2))))))) (As := [.int (nI i6)]) (rest := [.long (31 * (lpH (fun i => ((fX5_told G (nI i)).1).toInt64) (lpH (fun i => ((fX5_refused G (nI i)).1).toInt64) 1690 5) i6))]) (q0 := 0) ⟨hx, hb, hml, hown, hts⟩ hr48 (cwV 1 hts gX5_digest_X5_told rfl rfl rfl qvX5_told ⟨Nat.le_of_ble_eq_true rfl, Nat.le_of_ble_eq_true rfl⟩) hK hP hD hS hA rfl rfl rfl rfl rfl hl.1 rfl (Nat.le_of_ble_eq_true rfl) dX5_digest_45 ⟨Nat.zero_le _, Nat.zero_le _⟩ (fun H locs hP hD hS => ?_)
          refine lv_i2l (v := ((fX5_told G (nI i6)).1).toInt64) (pc := 48) hx hb dX5_digest_48 rfl ?_
          refine lv_ladd (pc := 49) hx hb dX5_digest_49 ?_
          refine g_topl (fun x49 ex49 => ?_)
          refine lv_lstore_n (lv' := [(1, .long x49), (0, .ref g0), (3, .int (nI i6))]) (pc := 50) hx hb dX5_digest_50 rfl hl (by decide) rfl (fun ls hl => ?_)
          refine lv_iinc (v := nI (i6 + 1)) (lv' := [(3, .int (nI (i6 + 1))), (1, .long x49), (0, .ref g0)]) (pc := 51) hx hb dX5_digest_51 hl (k := 2) rfl (nI_1 i6) (by decide) rfl (fun ls hl => ?_)
          refine lv_goto (tgt := 32) (pc := 54) hx hb dX5_digest_54 (by decide) ?_
          subst ex49
          exact ih8 (i6 + 1) (by omega) _ _ _ hP hD hS (lv_sub hl [2, 1, 0] (by rw [lpH_s _ _ i6]; rfl))
      exact loop9 12 0 (by decide) _ _ _ hP hD hS (lv_sub hl [1, 2, 0] (by rw [lpH_0]; rfl))
    | succ n2 ih3 =>
      intro i1 hi H locs ls hP hD hS hl
      have hlt : i1 < 5 := by omega
      refine lv_iload_n (pc := 6) hx hb dX5_digest_6 rfl (lv_at hl 2 rfl) ?_
      refine lv_iconst (v := 5) (pc := 7) hx hb dX5_digest_7 rfl ?_
      refine lv_icmp_ge (tgt := 30) (pc := 8) hx hb dX5_digest_8 (by decide) (fun c_50 => ?_) (fun c_50 => ?_)
      · exact absurd c_50 (nI_ge (a := i1) (b := 5) (by omega) (by decide))
      refine lv_ldc2 (v := (31)) (pc := 11) hx hb hown (hts _ mm_X5_digest_2) dX5_digest_11 ?_
      refine lv_lload_n (pc := 14) hx hb dX5_digest_14 rfl (lv_at hl 1 rfl) ?_
      refine lv_lmul (pc := 15) hx hb dX5_digest_15 ?_
      refine lv_aload_n (pc := 16) hx hb dX5_digest_16 rfl (lv_at hl 0 rfl) ?_
      refine lv_iload_n (pc := 17) hx hb dX5_digest_17 rfl (lv_at hl 2 rfl) ?_
      have hr51 := kX5_refused l E g0 b u0 u1 rr t G (nI i1)
      rw [hrf i1 (by omega)] at hr51
      refine gcVi0 (pc := 18) (w1 := ((g0, .inr (5, [.ref (b 0), .ref u0, .ref (t 0), .int (G.1 0), .int (G.1 1), .int (G.1 2)])) :: ((wB E b G.2.1) ++ ((u0, .inr (3, [.ref u1, .int (nI G.2.2.1), .int G.2.2.2.1])) :: ((u1, .inl (eO E, 6, .inr (.inr (.inr (.inr (fun k => some (rr k 0))))))) :: ((wRg E rr G.2.2.2.2.1) ++ (wT E t G.2.2.2.2.2))))))) (As := [.int (nI i1)]) (rest := [.long (31 * (lpH (fun i => ((fX5_refused G (nI i)).1).toInt64) 1690 i1))]) (q0 := 0) ⟨hx, hb, hml, hown, hts⟩ hr51 (cwV 1 hts gX5_digest_X5_refused rfl rfl rfl qvX5_refused ⟨Nat.le_of_ble_eq_true rfl, Nat.le_of_ble_eq_true rfl⟩) hK hP hD hS hA rfl rfl rfl rfl rfl hl.1 rfl (Nat.le_of_ble_eq_true rfl) dX5_digest_18 ⟨Nat.zero_le _, Nat.zero_le _⟩ (fun H locs hP hD hS => ?_)
      refine lv_i2l (v := ((fX5_refused G (nI i1)).1).toInt64) (pc := 21) hx hb dX5_digest_21 rfl ?_
      refine lv_ladd (pc := 22) hx hb dX5_digest_22 ?_
      refine g_topl (fun x52 ex52 => ?_)
      refine lv_lstore_n (lv' := [(1, .long x52), (0, .ref g0), (3, .int (nI i1))]) (pc := 23) hx hb dX5_digest_23 rfl hl (by decide) rfl (fun ls hl => ?_)
      refine lv_iinc (v := nI (i1 + 1)) (lv' := [(3, .int (nI (i1 + 1))), (1, .long x52), (0, .ref g0)]) (pc := 24) hx hb dX5_digest_24 hl (k := 2) rfl (nI_1 i1) (by decide) rfl (fun ls hl => ?_)
      refine lv_goto (tgt := 6) (pc := 27) hx hb dX5_digest_27 (by decide) ?_
      subst ex52
      exact ih3 (i1 + 1) (by omega) _ _ _ hP hD hS (lv_sub hl [2, 1, 0] (by rw [lpH_s _ _ i1]; rfl))
  exact loop4 5 0 (by decide) _ _ _ hP hD hS (lv_sub hl [2, 1, 0] (by rw [lpH_0]; rfl))
