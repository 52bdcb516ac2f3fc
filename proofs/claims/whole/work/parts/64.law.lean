/-! THE LOOP, and the law from its entry -/
theorem len_4 {L : Nat} (hL : L ≤ 2048) : (Int32.ofNat L - 4).toInt = (L : Int) - 4 := by
  have e : (Int32.ofNat L).toInt = (L : Int) := nI_toInt (n := L) (by omega)
  rw [s32 (by rw [e]; simp only [Int32.reduceToInt]; omega) (by rw [e]; simp only [Int32.reduceToInt]; omega), e]; rfl
set_option maxHeartbeats 4000000 in
set_option maxRecDepth 100000 in
theorem law_loop {p : Program} {l : Launch} {e : Env} {s : State} {m : MethodId} {below : List Frame} {meth : Method} {c : Code} {cells slots : Nat} {E : gEnv} {b L : Nat} {xs : Nat → Int32} {g0 : Nat} {bb : Nat → Nat} {u0 u1 : Nat} {rr : Nat → Nat → Nat} {t : Nat → Nat} {a : Nat → Nat} (C : lwC p s m c b L xs E) (hr : meth.sig.returnType = ret) (hlocks : meth.locks = false) (hL : L ≤ 2048) (hf : cells ≤ 600000 ∧ slots ≤ 7302250) : ∀ (f k : Nat) (G : GS) (M : Mdl), L < 4 * k + 4 * f + 4 → k ≤ 512 → Rel G M (40 * k) → ∀ (H : Heap) (locs : List Loc) (ls : Array Slot), va_P E.1 vwCl (wG E g0 bb u0 u1 rr t G ++ wM E a M) H → va_D (fun q : Nat => s.heap.size ≤ q) (wG E g0 bb u0 u1 rr t G ++ wM E a M) → va_S (fun q : Nat => s.heap.size ≤ q) s.heap H locs → lv_has ls 4 [(0, .ref b), (1, .ref g0), (2, .ref (a 0)), (3, .int (nI (4 * k)))] → W p l e room_1 s m #[Value.ref b] below meth c H locs cells slots (lw_Z below #[Value.ref b] s) (F0 m 18 ls []) := by
  have C0 := C
  obtain ⟨hx, hb, hml, hown, hts, hX, hbl, hK⟩ := C0
  have hbA : ¬ (fun q : Nat => s.heap.size ≤ q) b := Nat.not_le.mpr hbl
  intro f
  induction f with
  | zero =>
    intro k G M hk hk2 R H locs ls hP hD hS hl
    refine lv_iload_n (pc := 18) hx hb dL_law_18 rfl (lv_at hl 3 rfl) ?_
    refine lv_aload_n (pc := 19) hx hb dL_law_19 rfl (lv_at hl 0 rfl) ?_
    refine va_slen (A := fun q : Nat => s.heap.size ≤ q) (pc := 20) hx hb hX hbl hbA hS dL_law_20 ?_
    refine lv_iconst (v := 4) (pc := 21) hx hb dL_law_21 rfl ?_
    refine lv_isub (pc := 22) hx hb dL_law_22 ?_
    refine lv_icmp_gt (tgt := 689) (pc := 23) hx hb dL_law_23 (by decide) (fun _ => ?_) (fun q => ?_)
    · refine lv_iconst (v := 1) (pc := 689) hx hb dL_law_689 rfl ?_
      refine va_forget (fun q hq => hS.2.2 q hq) ?_
      refine W.widen hf.1 hf.2 ?_
      exact lw_ret hx hb hr hlocks dL_law_690
    · exact absurd (show Int32.ofNat L - 4 < nI (4 * k) by rw [t32_lt, len_4 hL, nI_toInt (by omega)]; omega) q
  | succ f ih =>
    intro k G M hk hk2 R H locs ls hP hD hS hl
    refine lv_iload_n (pc := 18) hx hb dL_law_18 rfl (lv_at hl 3 rfl) ?_
    refine lv_aload_n (pc := 19) hx hb dL_law_19 rfl (lv_at hl 0 rfl) ?_
    refine va_slen (A := fun q : Nat => s.heap.size ≤ q) (pc := 20) hx hb hX hbl hbA hS dL_law_20 ?_
    refine lv_iconst (v := 4) (pc := 21) hx hb dL_law_21 rfl ?_
    refine lv_isub (pc := 22) hx hb dL_law_22 ?_
    refine lv_icmp_gt (tgt := 689) (pc := 23) hx hb dL_law_23 (by decide) (fun _ => ?_) (fun q => ?_)
    · refine lv_iconst (v := 1) (pc := 689) hx hb dL_law_689 rfl ?_
      refine va_forget (fun q hq => hS.2.2 q hq) ?_
      refine W.widen hf.1 hf.2 ?_
      exact lw_ret hx hb hr hlocks dL_law_690
    · have q2 : ¬ (Int32.ofNat L - 4).toInt < (nI (4 * k)).toInt := fun z => q (t32_lt.mpr z)
      rw [len_4 hL, nI_toInt (by omega)] at q2
      have hi : 4 * k + 3 < L := by omega
      have hc1 : 40 * k + 40 ≤ 20480 := by omega
      have hc2 : 40 * k < 20480 := by omega
      have nx : ∀ (G' : GS) (M' : Mdl) (H : Heap) (locs : List Loc), Rel G' M' (40 * k + 40) → va_P E.1 vwCl (wG E g0 bb u0 u1 rr t G' ++ wM E a M') H → va_D (fun q : Nat => s.heap.size ≤ q) (wG E g0 bb u0 u1 rr t G' ++ wM E a M') → va_S (fun q : Nat => s.heap.size ≤ q) s.heap H locs → W p l e room_1 s m #[Value.ref b] below meth c H locs cells slots (lw_Z below #[Value.ref b] s) (F0 m 683 ls []) := by
        intro G' M' H locs R' hP hD hS
        refine lv_iinc (v := nI (4 * (k + 1))) (lv' := [(3, .int (nI (4 * (k + 1)))), (0, .ref b), (1, .ref g0), (2, .ref (a 0))]) (pc := 683) hx hb dL_law_683 hl (k := 3) rfl (show nI (4 * k) + Int32.ofInt 4 = nI (4 * (k + 1)) from (nI_add (4 * k) 4)) (by decide) rfl (fun ls hl => ?_)
        refine lv_goto (tgt := 18) (pc := 686) hx hb dL_law_686 (by decide) ?_
        exact ih (k + 1) G' M' (by omega) (by omega) (by rw [show 40 * (k + 1) = 40 * k + 40 by omega]; exact R') _ _ _ hP hD hS (lv_sub hl [1, 2, 3, 0] rfl)
      refine lv_aload_n (pc := 26) hx hb dL_law_26 rfl (lv_at hl 0 rfl) ?_
      refine lv_iload_n (pc := 27) hx hb dL_law_27 rfl (lv_at hl 3 rfl) ?_
      refine va_sld (A := fun q : Nat => s.heap.size ≤ q) (pc := 28) hx hb hX hbl hbA hS (vp_in_nI (by omega) (by omega)) dL_law_28 ?_
      refine lv_bipush (v := 31) (pc := 29) hx hb dL_law_29 rfl ?_
      refine lv_iand (pc := 31) hx hb dL_law_31 ?_
      refine lv_topi (fun z ez => ?_)
      by_cases h0 : z.toInt < 0 ∨ 21 < z.toInt
      · refine lv_tableOut (tgt := 683) (pc := 32) hx hb dL_law_32 h0 (by decide) ?_
        exact nx G M H locs (Rel_m 40 R) hP hD hS
      · have h1 : ¬ z.toInt < 0 := fun w => h0 (.inl w)
        have h2 : ¬ 21 < z.toInt := fun w => h0 (.inr w)
        have h3 : z.toInt = 0 ∨ z.toInt = 1 ∨ z.toInt = 2 ∨ z.toInt = 3 ∨ z.toInt = 4 ∨ z.toInt = 5 ∨ z.toInt = 6 ∨ z.toInt = 7 ∨ z.toInt = 8 ∨ z.toInt = 9 ∨ z.toInt = 10 ∨ z.toInt = 11 ∨ z.toInt = 12 ∨ z.toInt = 13 ∨ z.toInt = 14 ∨ z.toInt = 15 ∨ z.toInt = 16 ∨ z.toInt = 17 ∨ z.toInt = 18 ∨ z.toInt = 19 ∨ z.toInt = 20 ∨ z.toInt = 21 := by omega
        rcases h3 with h3 | h3 | h3 | h3 | h3 | h3 | h3 | h3 | h3 | h3 | h3 | h3 | h3 | h3 | h3 | h3 | h3 | h3 | h3 | h3 | h3 | h3
        · refine lv_tableIn (tgt := 136) (pc := 32) hx hb dL_law_32 h1 h2 (by rw [h3]; rfl) (by decide) ?_
          exact lc_begins C hL hi (fun x1 x2 => B_begins R x1 x2) hf hP hD hS hl nx
        · refine lv_tableIn (tgt := 169) (pc := 32) hx hb dL_law_32 h1 h2 (by rw [h3]; rfl) (by decide) ?_
          exact lc_holds C hL hi (fun x1 x2 => B_holds R x1 x2) hf hP hD hS hl nx
        · refine lv_tableIn (tgt := 202) (pc := 32) hx hb dL_law_32 h1 h2 (by rw [h3]; rfl) (by decide) ?_
          exact lc_offset C hL hi (fun x1 => B_offset R x1) hf hP hD hS hl nx
        · refine lv_tableIn (tgt := 225) (pc := 32) hx hb dL_law_32 h1 h2 (by rw [h3]; rfl) (by decide) ?_
          exact lc_clings C hL hi (fun x1 => B_clings R x1) hf hP hD hS hl nx
        · refine lv_tableIn (tgt := 248) (pc := 32) hx hb dL_law_32 h1 h2 (by rw [h3]; rfl) (by decide) ?_
          exact lc_curve C hL hi (fun x1 x2 => B_curve R x1 x2) hf hP hD hS hl nx
        · refine lv_tableIn (tgt := 281) (pc := 32) hx hb dL_law_32 h1 h2 (by rw [h3]; rfl) (by decide) ?_
          exact lc_passes C hL hi (fun x1 x2 => B_passes R hc2 x1 x2) hf hP hD hS hl nx
        · refine lv_tableIn (tgt := 314) (pc := 32) hx hb dL_law_32 h1 h2 (by rw [h3]; rfl) (by decide) ?_
          exact lc_rests C hL hi (fun x1 => B_rests R hc2 x1) hf hP hD hS hl nx
        · refine lv_tableIn (tgt := 337) (pc := 32) hx hb dL_law_32 h1 h2 (by rw [h3]; rfl) (by decide) ?_
          exact lc_loads C hL hi (fun x1 x2 => B_loads R hc2 x1 x2) hf hP hD hS hl nx
        · refine lv_tableIn (tgt := 370) (pc := 32) hx hb dL_law_32 h1 h2 (by rw [h3]; rfl) (by decide) ?_
          exact lc_told C hL hi (fun x1 => B_told R x1) hf hP hD hS hl nx
        · refine lv_tableIn (tgt := 393) (pc := 32) hx hb dL_law_32 h1 h2 (by rw [h3]; rfl) (by decide) ?_
          exact lc_volts C hL hi (fun x1 => B_volts R x1) hf hP hD hS hl nx
        · refine lv_tableIn (tgt := 416) (pc := 32) hx hb dL_law_32 h1 h2 (by rw [h3]; rfl) (by decide) ?_
          exact lc_inverse C hL hi (fun x1 x2 => B_inverse R x1 x2) hf hP hD hS hl nx
        · refine lv_tableIn (tgt := 449) (pc := 32) hx hb dL_law_32 h1 h2 (by rw [h3]; rfl) (by decide) ?_
          exact lc_band C hL hi (fun x1 x2 x3 => B_band R x1 x2 x3) hf hP hD hS hl nx
        · refine lv_tableIn (tgt := 492) (pc := 32) hx hb dL_law_32 h1 h2 (by rw [h3]; rfl) (by decide) ?_
          exact lc_bands C hL hi (B_bands R) hf hP hD hS hl nx
        · refine lv_tableIn (tgt := 505) (pc := 32) hx hb dL_law_32 h1 h2 (by rw [h3]; rfl) (by decide) ?_
          exact lc_lasts C hL hi (fun x1 x2 => B_lasts R x1 x2) hf hP hD hS hl nx
        · refine lv_tableIn (tgt := 538) (pc := 32) hx hb dL_law_32 h1 h2 (by rw [h3]; rfl) (by decide) ?_
          exact lc_under C hL hi (fun x1 => B_under R x1) hf hP hD hS hl nx
        · refine lv_tableIn (tgt := 561) (pc := 32) hx hb dL_law_32 h1 h2 (by rw [h3]; rfl) (by decide) ?_
          exact lc_setting C hL hi (fun x1 => B_setting R x1) hf hP hD hS hl nx
        · refine lv_tableIn (tgt := 584) (pc := 32) hx hb dL_law_32 h1 h2 (by rw [h3]; rfl) (by decide) ?_
          exact lc_type C hL hi (fun x1 => B_type R x1) hf hP hD hS hl nx
        · refine lv_tableIn (tgt := 607) (pc := 32) hx hb dL_law_32 h1 h2 (by rw [h3]; rfl) (by decide) ?_
          exact lc_clear C hL hi (B_clear R) hf hP hD hS hl nx
        · refine lv_tableIn (tgt := 620) (pc := 32) hx hb dL_law_32 h1 h2 (by rw [h3]; rfl) (by decide) ?_
          exact lc_does C hL hi (B_does R hc1) hf hP hD hS hl nx
        · refine lv_tableIn (tgt := 633) (pc := 32) hx hb dL_law_32 h1 h2 (by rw [h3]; rfl) (by decide) ?_
          exact lc_back C hL hi (B_back R) hf hP hD hS hl nx
        · refine lv_tableIn (tgt := 646) (pc := 32) hx hb dL_law_32 h1 h2 (by rw [h3]; rfl) (by decide) ?_
          exact lc_refused C hL hi (fun x1 => B_refused R x1) hf hP hD hS hl nx
        · refine lv_tableIn (tgt := 669) (pc := 32) hx hb dL_law_32 h1 h2 (by rw [h3]; rfl) (by decide) ?_
          exact lc_digest C hL hi (B_digest R) hf hP hD hS hl nx
set_option maxHeartbeats 4000000 in
set_option maxRecDepth 100000 in
theorem whole_start {p : Program} {e : Env} {s : State} {m : MethodId} {below : List Frame} {meth : Method} {c : Code} (l : Launch) (hflags : l.flags = flags0) {b L : Nat} {xs : Nat → Int32} (hL : L ≤ 2048) (C0 : lw_At p s m meth c b L xs) : W p l e room_1 s m #[Value.ref b] below meth c s.heap [] 0 0 (lw_Z below #[Value.ref b] s) (entryFrame m ([Value.ref b] : List Value).toArray 4) := by
  obtain ⟨hx, hb, hr, hml, hown, hts0, hX, hbl, hlocks, hgv⟩ := id C0
  have hown : s.vm.findClass RL = some m.cls := hown
  obtain ⟨E, hK, hAO⟩ := law_env hts0
  have hts : ∀ w ∈ wsL_law, w.before #[Value.ref b] s = true := fun w h => hts0 w (wsL_law_in w h)
  have hA : ∀ q : Nat, s.heap.size ≤ q → (fun q : Nat => s.heap.size ≤ q) q := fun _ h => h
  have hS : va_S (fun q : Nat => s.heap.size ≤ q) s.heap s.heap [] := va_S.rf
  have hP : va_P E.1 vwCl [] s.heap := fun k q h => by simp at h
  have hD : va_D (fun q : Nat => s.heap.size ≤ q) [] := ⟨fun i j p q h => by simp at h, fun k q h => by simp at h⟩
  have hl := lv_entry ([.ref b]) (n := 4) (Nat.le_of_ble_eq_true rfl)
  rw [lg_entry_eq]
  generalize (lg_sl ([.ref b]) ++ List.replicate (4 - (lg_sl ([.ref b])).length) Slot.unset).toArray = ls at hl ⊢
  have hl : lv_has ls 4 [(0, .ref b)] := hl
  refine va_new (ci := 5) (fs := [.null, .null, .null, .int 0, .int 0, .int 0]) (C := RX5) (T := TX5) (N := 6) (pc := 0) hx hb hts inlX5 tyX5 tyX5_ok hown (hts (.classLink RL 7 RX5) (by decide +kernel)) (hts (.instantiable RX5 6) (by decide +kernel)) (hts (.initialized RX5) (by decide +kernel)) hK.1 hP hD hS hA rfl (fun j hj => by rcases (show j = 0 ∨ j = 1 ∨ j = 2 ∨ j = 3 ∨ j = 4 ∨ j = 5 by omega) with rfl | rfl | rfl | rfl | rfl | rfl <;> rfl) (Nat.le_of_ble_eq_true rfl) (Nat.le_of_ble_eq_true rfl) dL_law_0 (fun q0 H hP hD hS => ?_)
  have hP : va_P E.1 vwCl [(q0, .inr (5, [.null, .null, .null, .int 0, .int 0, .int 0]))] H := hP
  have hD : va_D (fun q : Nat => s.heap.size ≤ q) [(q0, .inr (5, [.null, .null, .null, .int 0, .int 0, .int 0]))] := hD
  refine lv_dup (pc := 3) hx hb dL_law_3 rfl ?_
  refine gcI (pc := 4) (pre := []) (post := []) (rest := [.ref q0]) ⟨hx, hb, hml, hown, hts⟩ (kX5_init l E q0) (cwI 0 hts gL_law_X5_init rfl rfl rfl (hts (.initialized RX5) (by decide +kernel)) (hts (.methodLink RL 9 yX5_init) (by decide +kernel)) (hts (.instanceMethod yX5_init) (by decide +kernel)) rfl qiX5_init ⟨Nat.le_of_ble_eq_true rfl, Nat.le_of_ble_eq_true rfl⟩) hK hAO hP hD hS hA rfl hl.1 rfl (Nat.le_of_ble_eq_true rfl) dL_law_4 ⟨Nat.le_of_ble_eq_true rfl, Nat.le_of_ble_eq_true rfl⟩ (fun u H locs hu hP hD hS => ?_)
  obtain ⟨bb, u0, u1, rr, t⟩ := u
  have hP : va_P E.1 vwCl (wG E q0 bb u0 u1 rr t G0) H := by
    have h := hP
    rw [List.append_nil] at h
    exact h
  have hD : va_D (fun q : Nat => s.heap.size ≤ q) (wG E q0 bb u0 u1 rr t G0) := by
    have h := hD
    rw [List.append_nil] at h
    exact h
  refine lv_astore_n (lv' := [(1, .ref q0), (0, .ref b)]) (pc := 7) hx hb dL_law_7 rfl hl (by decide) rfl (fun ls hl => ?_)
  refine va_new (ci := 6) (fs := [.null, .null, .null, .int 0, .null, .null, .int 0, .int 0, .int 0, .null, .null, .int 0, .int 0, .int 0, .long 0]) (C := RX6) (T := TX6) (N := 15) (pc := 8) hx hb hts inlX6 tyX6 tyX6_ok hown (hts (.classLink RL 10 RX6) (by decide +kernel)) (hts (.instantiable RX6 15) (by decide +kernel)) (hts (.initialized RX6) (by decide +kernel)) hK.1 hP hD hS hA rfl (fun j hj => by rcases (show j = 0 ∨ j = 1 ∨ j = 2 ∨ j = 3 ∨ j = 4 ∨ j = 5 ∨ j = 6 ∨ j = 7 ∨ j = 8 ∨ j = 9 ∨ j = 10 ∨ j = 11 ∨ j = 12 ∨ j = 13 ∨ j = 14 by omega) with rfl | rfl | rfl | rfl | rfl | rfl | rfl | rfl | rfl | rfl | rfl | rfl | rfl | rfl | rfl <;> rfl) (Nat.le_of_ble_eq_true rfl) (Nat.le_of_ble_eq_true rfl) dL_law_8 (fun q1 H hP hD hS => ?_)
  refine lv_dup (pc := 11) hx hb dL_law_11 rfl ?_
  refine gcI (pc := 12) (pre := wG E q0 bb u0 u1 rr t G0) (post := []) (rest := [.ref q1]) ⟨hx, hb, hml, hown, hts⟩ (kX6_init l E q1) (cwI 0 hts gL_law_X6_init rfl rfl rfl (hts (.initialized RX6) (by decide +kernel)) (hts (.methodLink RL 12 yX6_init) (by decide +kernel)) (hts (.instanceMethod yX6_init) (by decide +kernel)) rfl qiX6_init ⟨Nat.le_of_ble_eq_true rfl, Nat.le_of_ble_eq_true rfl⟩) hK hAO hP hD hS hA rfl hl.1 rfl (Nat.le_of_ble_eq_true rfl) dL_law_12 ⟨Nat.le_of_ble_eq_true rfl, Nat.le_of_ble_eq_true rfl⟩ (fun a H locs ha hP hD hS => ?_)
  have hP : va_P E.1 vwCl (wG E q0 bb u0 u1 rr t G0 ++ wM E a Mdl0) H := by
    have h := hP
    rw [List.append_nil] at h
    exact h
  have hD : va_D (fun q : Nat => s.heap.size ≤ q) (wG E q0 bb u0 u1 rr t G0 ++ wM E a Mdl0) := by
    have h := hD
    rw [List.append_nil] at h
    exact h
  rw [← ha]
  refine lv_astore_n (lv' := [(2, .ref (a 0)), (1, .ref q0), (0, .ref b)]) (pc := 15) hx hb dL_law_15 rfl hl (by decide) rfl (fun ls hl => ?_)
  refine lv_iconst (v := 0) (pc := 16) hx hb dL_law_16 rfl ?_
  refine lv_istore_n (lv' := [(3, .int 0), (2, .ref (a 0)), (1, .ref q0), (0, .ref b)]) (pc := 17) hx hb dL_law_17 rfl hl (by decide) rfl (fun ls hl => ?_)
  exact law_loop (f := 513) (k := 0) ⟨hx, hb, hml, hown, hts, hX, hbl, hK⟩ hr hlocks hL ⟨Nat.le_of_ble_eq_true rfl, Nat.le_of_ble_eq_true rfl⟩ G0 Mdl0 (by omega) (by omega) Rel_0 _ _ _ hP hD hS (lv_sub hl [3, 2, 1, 0] rfl)
