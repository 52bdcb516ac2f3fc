/-! THE CASES: one call of both, by the script's numbers -/
def lwC (p : Program) (s : State) (m : MethodId) (c : Code) (b L : Nat) (xs : Nat → Int32) (E : gEnv) : Prop := p.tables.exec = Jvm.exec ∧ c.code = code ∧ c.maxLocals = 4 ∧ s.vm.findClass RL = some m.cls ∧ (∀ w ∈ wsL_law, w.before #[Value.ref b] s = true) ∧ va_X b L xs s s.heap ∧ b < s.heap.size ∧ gKn E s
theorem ix_L {i d L : Nat} (h : i + 3 < L) (hd : d ≤ 3) (hL : L ≤ 2048) : vp_in (nI i + nI d) L := by
  rw [nI_add]; exact vp_in_nI (by omega) (by omega)
section CASES
variable {p : Program} {l : Launch} {e : Env} {s : State} {m : MethodId} {below : List Frame} {meth : Method} {c : Code} {H : Heap} {locs : List Loc} {cells slots : Nat} {Q : State → Prop} {E : gEnv} {b L : Nat} {xs : Nat → Int32} {ls : Array Slot}
variable {g0 : Nat} {bb : Nat → Nat} {u0 u1 : Nat} {rr : Nat → Nat → Nat} {t : Nat → Nat} {a : Nat → Nat} {G : GS} {M : Mdl} {n i : Nat}
set_option maxHeartbeats 4000000 in
set_option maxRecDepth 100000 in
theorem lc_begins (C : lwC p s m c b L xs E) (hL : L ≤ 2048) (hi : i + 3 < L) (hB : ∀ x1 x2 : Int32, gBi l E g0 bb u0 u1 rr t a G M n yX5_begins wsX5_begins rX5_begins yX6_begins wsX6_begins rX6_begins [.int x1, .int x2]) (hf : cells ≤ room_1.cells ∧ slots ≤ room_1.slots) (hP : va_P E.1 vwCl (wG E g0 bb u0 u1 rr t G ++ wM E a M) H) (hD : va_D (fun q : Nat => s.heap.size ≤ q) (wG E g0 bb u0 u1 rr t G ++ wM E a M)) (hS : va_S (fun q : Nat => s.heap.size ≤ q) s.heap H locs) (hl : lv_has ls 4 [(0, .ref b), (1, .ref g0), (2, .ref (a 0)), (3, .int (nI i))])
    (kk : ∀ (G' : GS) (M' : Mdl) (H : Heap) (locs : List Loc), Rel G' M' (n + 40) → va_P E.1 vwCl (wG E g0 bb u0 u1 rr t G' ++ wM E a M') H → va_D (fun q : Nat => s.heap.size ≤ q) (wG E g0 bb u0 u1 rr t G' ++ wM E a M') → va_S (fun q : Nat => s.heap.size ≤ q) s.heap H locs → W p l e room_1 s m #[Value.ref b] below meth c H locs cells slots Q (F0 m 683 ls [])) : W p l e room_1 s m #[Value.ref b] below meth c H locs cells slots Q (F0 m 136 ls []) := by
  obtain ⟨hx, hb, hml, hown, hts, hX, hbl, hK⟩ := C
  have hA : ∀ q : Nat, s.heap.size ≤ q → (fun q : Nat => s.heap.size ≤ q) q := fun _ h => h
  have hbA : ¬ (fun q : Nat => s.heap.size ≤ q) b := Nat.not_le.mpr hbl
  have h1 : vp_in (nI i + 1) L := ix_L (d := 1) hi (by decide) hL
  have h2 : vp_in (nI i + 2) L := ix_L (d := 2) hi (by decide) hL
  obtain ⟨v, G', M', k5, k6, R'⟩ := hB (xs (nI i + 1).toNatClampNeg) (xs (nI i + 2).toNatClampNeg)
  refine lv_aload_n (pc := 136) hx hb dL_law_136 rfl (lv_at hl 1 rfl) ?_
  refine lv_aload_n (pc := 137) hx hb dL_law_137 rfl (lv_at hl 0 rfl) ?_
  refine lv_iload_n (pc := 138) hx hb dL_law_138 rfl (lv_at hl 3 rfl) ?_
  refine lv_iconst (v := 1) (pc := 139) hx hb dL_law_139 rfl ?_
  refine lv_iadd (pc := 140) hx hb dL_law_140 ?_
  refine va_sld (A := fun q : Nat => s.heap.size ≤ q) (pc := 141) hx hb hX hbl hbA hS h1 dL_law_141 ?_
  refine lv_aload_n (pc := 142) hx hb dL_law_142 rfl (lv_at hl 0 rfl) ?_
  refine lv_iload_n (pc := 143) hx hb dL_law_143 rfl (lv_at hl 3 rfl) ?_
  refine lv_iconst (v := 2) (pc := 144) hx hb dL_law_144 rfl ?_
  refine lv_iadd (pc := 145) hx hb dL_law_145 ?_
  refine va_sld (A := fun q : Nat => s.heap.size ≤ q) (pc := 146) hx hb hX hbl hbA hS h2 dL_law_146 ?_
  refine gcVi (pc := 147) (w1 := wG E g0 bb u0 u1 rr t G' ++ wM E a M) (pre := []) (post := wM E a M) (As := [.int (xs (nI i + 1).toNatClampNeg), .int (xs (nI i + 2).toNatClampNeg)]) (rest := []) (q0 := 0) ⟨hx, hb, hml, hown, hts⟩ k5 (cwV 2 hts gL_law_X5_begins rfl rfl rfl qvX5_begins ⟨Nat.le_of_ble_eq_true rfl, Nat.le_of_ble_eq_true rfl⟩) hK hP hD hS hA rfl rfl rfl rfl rfl hl.1 rfl (Nat.le_of_ble_eq_true rfl) dL_law_147 hf (fun H locs hP hD hS => ?_)
  refine lv_aload_n (pc := 150) hx hb dL_law_150 rfl (lv_at hl 2 rfl) ?_
  refine lv_aload_n (pc := 151) hx hb dL_law_151 rfl (lv_at hl 0 rfl) ?_
  refine lv_iload_n (pc := 152) hx hb dL_law_152 rfl (lv_at hl 3 rfl) ?_
  refine lv_iconst (v := 1) (pc := 153) hx hb dL_law_153 rfl ?_
  refine lv_iadd (pc := 154) hx hb dL_law_154 ?_
  refine va_sld (A := fun q : Nat => s.heap.size ≤ q) (pc := 155) hx hb hX hbl hbA hS h1 dL_law_155 ?_
  refine lv_aload_n (pc := 156) hx hb dL_law_156 rfl (lv_at hl 0 rfl) ?_
  refine lv_iload_n (pc := 157) hx hb dL_law_157 rfl (lv_at hl 3 rfl) ?_
  refine lv_iconst (v := 2) (pc := 158) hx hb dL_law_158 rfl ?_
  refine lv_iadd (pc := 159) hx hb dL_law_159 ?_
  refine va_sld (A := fun q : Nat => s.heap.size ≤ q) (pc := 160) hx hb hX hbl hbA hS h2 dL_law_160 ?_
  refine gcVi (pc := 161) (w1 := wG E g0 bb u0 u1 rr t G' ++ wM E a M') (pre := wG E g0 bb u0 u1 rr t G') (post := []) (As := [.int (xs (nI i + 1).toNatClampNeg), .int (xs (nI i + 2).toNatClampNeg)]) (rest := [.int v]) (q0 := 0) ⟨hx, hb, hml, hown, hts⟩ k6 (cwV 2 hts gL_law_X6_begins rfl rfl rfl qvX6_begins ⟨Nat.le_of_ble_eq_true rfl, Nat.le_of_ble_eq_true rfl⟩) hK hP hD hS hA rfl rfl rfl rfl rfl hl.1 rfl (Nat.le_of_ble_eq_true rfl) dL_law_161 hf (fun H locs hP hD hS => ?_)
  exact lv_icmp_eq (tgt := 683) (pc := 164) hx hb dL_law_164 (by decide) (fun _ => kk G' M' H locs R' hP hD hS) (fun q => absurd rfl q)
set_option maxHeartbeats 4000000 in
set_option maxRecDepth 100000 in
theorem lc_holds (C : lwC p s m c b L xs E) (hL : L ≤ 2048) (hi : i + 3 < L) (hB : ∀ x1 x2 : Int32, gBi l E g0 bb u0 u1 rr t a G M n yX5_holds wsX5_holds rX5_holds yX6_holds wsX6_holds rX6_holds [.int x1, .int x2]) (hf : cells ≤ room_1.cells ∧ slots ≤ room_1.slots) (hP : va_P E.1 vwCl (wG E g0 bb u0 u1 rr t G ++ wM E a M) H) (hD : va_D (fun q : Nat => s.heap.size ≤ q) (wG E g0 bb u0 u1 rr t G ++ wM E a M)) (hS : va_S (fun q : Nat => s.heap.size ≤ q) s.heap H locs) (hl : lv_has ls 4 [(0, .ref b), (1, .ref g0), (2, .ref (a 0)), (3, .int (nI i))])
    (kk : ∀ (G' : GS) (M' : Mdl) (H : Heap) (locs : List Loc), Rel G' M' (n + 40) → va_P E.1 vwCl (wG E g0 bb u0 u1 rr t G' ++ wM E a M') H → va_D (fun q : Nat => s.heap.size ≤ q) (wG E g0 bb u0 u1 rr t G' ++ wM E a M') → va_S (fun q : Nat => s.heap.size ≤ q) s.heap H locs → W p l e room_1 s m #[Value.ref b] below meth c H locs cells slots Q (F0 m 683 ls [])) : W p l e room_1 s m #[Value.ref b] below meth c H locs cells slots Q (F0 m 169 ls []) := by
  obtain ⟨hx, hb, hml, hown, hts, hX, hbl, hK⟩ := C
  have hA : ∀ q : Nat, s.heap.size ≤ q → (fun q : Nat => s.heap.size ≤ q) q := fun _ h => h
  have hbA : ¬ (fun q : Nat => s.heap.size ≤ q) b := Nat.not_le.mpr hbl
  have h1 : vp_in (nI i + 1) L := ix_L (d := 1) hi (by decide) hL
  have h2 : vp_in (nI i + 2) L := ix_L (d := 2) hi (by decide) hL
  obtain ⟨v, G', M', k5, k6, R'⟩ := hB (xs (nI i + 1).toNatClampNeg) (xs (nI i + 2).toNatClampNeg)
  refine lv_aload_n (pc := 169) hx hb dL_law_169 rfl (lv_at hl 1 rfl) ?_
  refine lv_aload_n (pc := 170) hx hb dL_law_170 rfl (lv_at hl 0 rfl) ?_
  refine lv_iload_n (pc := 171) hx hb dL_law_171 rfl (lv_at hl 3 rfl) ?_
  refine lv_iconst (v := 1) (pc := 172) hx hb dL_law_172 rfl ?_
  refine lv_iadd (pc := 173) hx hb dL_law_173 ?_
  refine va_sld (A := fun q : Nat => s.heap.size ≤ q) (pc := 174) hx hb hX hbl hbA hS h1 dL_law_174 ?_
  refine lv_aload_n (pc := 175) hx hb dL_law_175 rfl (lv_at hl 0 rfl) ?_
  refine lv_iload_n (pc := 176) hx hb dL_law_176 rfl (lv_at hl 3 rfl) ?_
  refine lv_iconst (v := 2) (pc := 177) hx hb dL_law_177 rfl ?_
  refine lv_iadd (pc := 178) hx hb dL_law_178 ?_
  refine va_sld (A := fun q : Nat => s.heap.size ≤ q) (pc := 179) hx hb hX hbl hbA hS h2 dL_law_179 ?_
  refine gcVi (pc := 180) (w1 := wG E g0 bb u0 u1 rr t G' ++ wM E a M) (pre := []) (post := wM E a M) (As := [.int (xs (nI i + 1).toNatClampNeg), .int (xs (nI i + 2).toNatClampNeg)]) (rest := []) (q0 := 0) ⟨hx, hb, hml, hown, hts⟩ k5 (cwV 2 hts gL_law_X5_holds rfl rfl rfl qvX5_holds ⟨Nat.le_of_ble_eq_true rfl, Nat.le_of_ble_eq_true rfl⟩) hK hP hD hS hA rfl rfl rfl rfl rfl hl.1 rfl (Nat.le_of_ble_eq_true rfl) dL_law_180 hf (fun H locs hP hD hS => ?_)
  refine lv_aload_n (pc := 183) hx hb dL_law_183 rfl (lv_at hl 2 rfl) ?_
  refine lv_aload_n (pc := 184) hx hb dL_law_184 rfl (lv_at hl 0 rfl) ?_
  refine lv_iload_n (pc := 185) hx hb dL_law_185 rfl (lv_at hl 3 rfl) ?_
  refine lv_iconst (v := 1) (pc := 186) hx hb dL_law_186 rfl ?_
  refine lv_iadd (pc := 187) hx hb dL_law_187 ?_
  refine va_sld (A := fun q : Nat => s.heap.size ≤ q) (pc := 188) hx hb hX hbl hbA hS h1 dL_law_188 ?_
  refine lv_aload_n (pc := 189) hx hb dL_law_189 rfl (lv_at hl 0 rfl) ?_
  refine lv_iload_n (pc := 190) hx hb dL_law_190 rfl (lv_at hl 3 rfl) ?_
  refine lv_iconst (v := 2) (pc := 191) hx hb dL_law_191 rfl ?_
  refine lv_iadd (pc := 192) hx hb dL_law_192 ?_
  refine va_sld (A := fun q : Nat => s.heap.size ≤ q) (pc := 193) hx hb hX hbl hbA hS h2 dL_law_193 ?_
  refine gcVi (pc := 194) (w1 := wG E g0 bb u0 u1 rr t G' ++ wM E a M') (pre := wG E g0 bb u0 u1 rr t G') (post := []) (As := [.int (xs (nI i + 1).toNatClampNeg), .int (xs (nI i + 2).toNatClampNeg)]) (rest := [.int v]) (q0 := 0) ⟨hx, hb, hml, hown, hts⟩ k6 (cwV 2 hts gL_law_X6_holds rfl rfl rfl qvX6_holds ⟨Nat.le_of_ble_eq_true rfl, Nat.le_of_ble_eq_true rfl⟩) hK hP hD hS hA rfl rfl rfl rfl rfl hl.1 rfl (Nat.le_of_ble_eq_true rfl) dL_law_194 hf (fun H locs hP hD hS => ?_)
  exact lv_icmp_eq (tgt := 683) (pc := 197) hx hb dL_law_197 (by decide) (fun _ => kk G' M' H locs R' hP hD hS) (fun q => absurd rfl q)
set_option maxHeartbeats 4000000 in
set_option maxRecDepth 100000 in
theorem lc_offset (C : lwC p s m c b L xs E) (hL : L ≤ 2048) (hi : i + 3 < L) (hB : ∀ x1 : Int32, gBi l E g0 bb u0 u1 rr t a G M n yX5_offset wsX5_offset rX5_offset yX6_offset wsX6_offset rX6_offset [.int x1]) (hf : cells ≤ room_1.cells ∧ slots ≤ room_1.slots) (hP : va_P E.1 vwCl (wG E g0 bb u0 u1 rr t G ++ wM E a M) H) (hD : va_D (fun q : Nat => s.heap.size ≤ q) (wG E g0 bb u0 u1 rr t G ++ wM E a M)) (hS : va_S (fun q : Nat => s.heap.size ≤ q) s.heap H locs) (hl : lv_has ls 4 [(0, .ref b), (1, .ref g0), (2, .ref (a 0)), (3, .int (nI i))])
    (kk : ∀ (G' : GS) (M' : Mdl) (H : Heap) (locs : List Loc), Rel G' M' (n + 40) → va_P E.1 vwCl (wG E g0 bb u0 u1 rr t G' ++ wM E a M') H → va_D (fun q : Nat => s.heap.size ≤ q) (wG E g0 bb u0 u1 rr t G' ++ wM E a M') → va_S (fun q : Nat => s.heap.size ≤ q) s.heap H locs → W p l e room_1 s m #[Value.ref b] below meth c H locs cells slots Q (F0 m 683 ls [])) : W p l e room_1 s m #[Value.ref b] below meth c H locs cells slots Q (F0 m 202 ls []) := by
  obtain ⟨hx, hb, hml, hown, hts, hX, hbl, hK⟩ := C
  have hA : ∀ q : Nat, s.heap.size ≤ q → (fun q : Nat => s.heap.size ≤ q) q := fun _ h => h
  have hbA : ¬ (fun q : Nat => s.heap.size ≤ q) b := Nat.not_le.mpr hbl
  have h1 : vp_in (nI i + 1) L := ix_L (d := 1) hi (by decide) hL
  obtain ⟨v, G', M', k5, k6, R'⟩ := hB (xs (nI i + 1).toNatClampNeg)
  refine lv_aload_n (pc := 202) hx hb dL_law_202 rfl (lv_at hl 1 rfl) ?_
  refine lv_aload_n (pc := 203) hx hb dL_law_203 rfl (lv_at hl 0 rfl) ?_
  refine lv_iload_n (pc := 204) hx hb dL_law_204 rfl (lv_at hl 3 rfl) ?_
  refine lv_iconst (v := 1) (pc := 205) hx hb dL_law_205 rfl ?_
  refine lv_iadd (pc := 206) hx hb dL_law_206 ?_
  refine va_sld (A := fun q : Nat => s.heap.size ≤ q) (pc := 207) hx hb hX hbl hbA hS h1 dL_law_207 ?_
  refine gcVi (pc := 208) (w1 := wG E g0 bb u0 u1 rr t G' ++ wM E a M) (pre := []) (post := wM E a M) (As := [.int (xs (nI i + 1).toNatClampNeg)]) (rest := []) (q0 := 0) ⟨hx, hb, hml, hown, hts⟩ k5 (cwV 1 hts gL_law_X5_offset rfl rfl rfl qvX5_offset ⟨Nat.le_of_ble_eq_true rfl, Nat.le_of_ble_eq_true rfl⟩) hK hP hD hS hA rfl rfl rfl rfl rfl hl.1 rfl (Nat.le_of_ble_eq_true rfl) dL_law_208 hf (fun H locs hP hD hS => ?_)
  refine lv_aload_n (pc := 211) hx hb dL_law_211 rfl (lv_at hl 2 rfl) ?_
  refine lv_aload_n (pc := 212) hx hb dL_law_212 rfl (lv_at hl 0 rfl) ?_
  refine lv_iload_n (pc := 213) hx hb dL_law_213 rfl (lv_at hl 3 rfl) ?_
  refine lv_iconst (v := 1) (pc := 214) hx hb dL_law_214 rfl ?_
  refine lv_iadd (pc := 215) hx hb dL_law_215 ?_
  refine va_sld (A := fun q : Nat => s.heap.size ≤ q) (pc := 216) hx hb hX hbl hbA hS h1 dL_law_216 ?_
  refine gcVi (pc := 217) (w1 := wG E g0 bb u0 u1 rr t G' ++ wM E a M') (pre := wG E g0 bb u0 u1 rr t G') (post := []) (As := [.int (xs (nI i + 1).toNatClampNeg)]) (rest := [.int v]) (q0 := 0) ⟨hx, hb, hml, hown, hts⟩ k6 (cwV 1 hts gL_law_X6_offset rfl rfl rfl qvX6_offset ⟨Nat.le_of_ble_eq_true rfl, Nat.le_of_ble_eq_true rfl⟩) hK hP hD hS hA rfl rfl rfl rfl rfl hl.1 rfl (Nat.le_of_ble_eq_true rfl) dL_law_217 hf (fun H locs hP hD hS => ?_)
  exact lv_icmp_eq (tgt := 683) (pc := 220) hx hb dL_law_220 (by decide) (fun _ => kk G' M' H locs R' hP hD hS) (fun q => absurd rfl q)
set_option maxHeartbeats 4000000 in
set_option maxRecDepth 100000 in
theorem lc_clings (C : lwC p s m c b L xs E) (hL : L ≤ 2048) (hi : i + 3 < L) (hB : ∀ x1 : Int32, gBi l E g0 bb u0 u1 rr t a G M n yX5_clings wsX5_clings rX5_clings yX6_clings wsX6_clings rX6_clings [.int x1]) (hf : cells ≤ room_1.cells ∧ slots ≤ room_1.slots) (hP : va_P E.1 vwCl (wG E g0 bb u0 u1 rr t G ++ wM E a M) H) (hD : va_D (fun q : Nat => s.heap.size ≤ q) (wG E g0 bb u0 u1 rr t G ++ wM E a M)) (hS : va_S (fun q : Nat => s.heap.size ≤ q) s.heap H locs) (hl : lv_has ls 4 [(0, .ref b), (1, .ref g0), (2, .ref (a 0)), (3, .int (nI i))])
    (kk : ∀ (G' : GS) (M' : Mdl) (H : Heap) (locs : List Loc), Rel G' M' (n + 40) → va_P E.1 vwCl (wG E g0 bb u0 u1 rr t G' ++ wM E a M') H → va_D (fun q : Nat => s.heap.size ≤ q) (wG E g0 bb u0 u1 rr t G' ++ wM E a M') → va_S (fun q : Nat => s.heap.size ≤ q) s.heap H locs → W p l e room_1 s m #[Value.ref b] below meth c H locs cells slots Q (F0 m 683 ls [])) : W p l e room_1 s m #[Value.ref b] below meth c H locs cells slots Q (F0 m 225 ls []) := by
  obtain ⟨hx, hb, hml, hown, hts, hX, hbl, hK⟩ := C
  have hA : ∀ q : Nat, s.heap.size ≤ q → (fun q : Nat => s.heap.size ≤ q) q := fun _ h => h
  have hbA : ¬ (fun q : Nat => s.heap.size ≤ q) b := Nat.not_le.mpr hbl
  have h1 : vp_in (nI i + 1) L := ix_L (d := 1) hi (by decide) hL
  obtain ⟨v, G', M', k5, k6, R'⟩ := hB (xs (nI i + 1).toNatClampNeg)
  refine lv_aload_n (pc := 225) hx hb dL_law_225 rfl (lv_at hl 1 rfl) ?_
  refine lv_aload_n (pc := 226) hx hb dL_law_226 rfl (lv_at hl 0 rfl) ?_
  refine lv_iload_n (pc := 227) hx hb dL_law_227 rfl (lv_at hl 3 rfl) ?_
  refine lv_iconst (v := 1) (pc := 228) hx hb dL_law_228 rfl ?_
  refine lv_iadd (pc := 229) hx hb dL_law_229 ?_
  refine va_sld (A := fun q : Nat => s.heap.size ≤ q) (pc := 230) hx hb hX hbl hbA hS h1 dL_law_230 ?_
  refine gcVi (pc := 231) (w1 := wG E g0 bb u0 u1 rr t G' ++ wM E a M) (pre := []) (post := wM E a M) (As := [.int (xs (nI i + 1).toNatClampNeg)]) (rest := []) (q0 := 0) ⟨hx, hb, hml, hown, hts⟩ k5 (cwV 1 hts gL_law_X5_clings rfl rfl rfl qvX5_clings ⟨Nat.le_of_ble_eq_true rfl, Nat.le_of_ble_eq_true rfl⟩) hK hP hD hS hA rfl rfl rfl rfl rfl hl.1 rfl (Nat.le_of_ble_eq_true rfl) dL_law_231 hf (fun H locs hP hD hS => ?_)
  refine lv_aload_n (pc := 234) hx hb dL_law_234 rfl (lv_at hl 2 rfl) ?_
  refine lv_aload_n (pc := 235) hx hb dL_law_235 rfl (lv_at hl 0 rfl) ?_
  refine lv_iload_n (pc := 236) hx hb dL_law_236 rfl (lv_at hl 3 rfl) ?_
  refine lv_iconst (v := 1) (pc := 237) hx hb dL_law_237 rfl ?_
  refine lv_iadd (pc := 238) hx hb dL_law_238 ?_
  refine va_sld (A := fun q : Nat => s.heap.size ≤ q) (pc := 239) hx hb hX hbl hbA hS h1 dL_law_239 ?_
  refine gcVi (pc := 240) (w1 := wG E g0 bb u0 u1 rr t G' ++ wM E a M') (pre := wG E g0 bb u0 u1 rr t G') (post := []) (As := [.int (xs (nI i + 1).toNatClampNeg)]) (rest := [.int v]) (q0 := 0) ⟨hx, hb, hml, hown, hts⟩ k6 (cwV 1 hts gL_law_X6_clings rfl rfl rfl qvX6_clings ⟨Nat.le_of_ble_eq_true rfl, Nat.le_of_ble_eq_true rfl⟩) hK hP hD hS hA rfl rfl rfl rfl rfl hl.1 rfl (Nat.le_of_ble_eq_true rfl) dL_law_240 hf (fun H locs hP hD hS => ?_)
  exact lv_icmp_eq (tgt := 683) (pc := 243) hx hb dL_law_243 (by decide) (fun _ => kk G' M' H locs R' hP hD hS) (fun q => absurd rfl q)
set_option maxHeartbeats 4000000 in
set_option maxRecDepth 100000 in
theorem lc_curve (C : lwC p s m c b L xs E) (hL : L ≤ 2048) (hi : i + 3 < L) (hB : ∀ x1 x2 : Int32, gBi l E g0 bb u0 u1 rr t a G M n yX5_curve wsX5_curve rX5_curve yX6_curve wsX6_curve rX6_curve [.int x1, .int x2]) (hf : cells ≤ room_1.cells ∧ slots ≤ room_1.slots) (hP : va_P E.1 vwCl (wG E g0 bb u0 u1 rr t G ++ wM E a M) H) (hD : va_D (fun q : Nat => s.heap.size ≤ q) (wG E g0 bb u0 u1 rr t G ++ wM E a M)) (hS : va_S (fun q : Nat => s.heap.size ≤ q) s.heap H locs) (hl : lv_has ls 4 [(0, .ref b), (1, .ref g0), (2, .ref (a 0)), (3, .int (nI i))])
    (kk : ∀ (G' : GS) (M' : Mdl) (H : Heap) (locs : List Loc), Rel G' M' (n + 40) → va_P E.1 vwCl (wG E g0 bb u0 u1 rr t G' ++ wM E a M') H → va_D (fun q : Nat => s.heap.size ≤ q) (wG E g0 bb u0 u1 rr t G' ++ wM E a M') → va_S (fun q : Nat => s.heap.size ≤ q) s.heap H locs → W p l e room_1 s m #[Value.ref b] below meth c H locs cells slots Q (F0 m 683 ls [])) : W p l e room_1 s m #[Value.ref b] below meth c H locs cells slots Q (F0 m 248 ls []) := by
  obtain ⟨hx, hb, hml, hown, hts, hX, hbl, hK⟩ := C
  have hA : ∀ q : Nat, s.heap.size ≤ q → (fun q : Nat => s.heap.size ≤ q) q := fun _ h => h
  have hbA : ¬ (fun q : Nat => s.heap.size ≤ q) b := Nat.not_le.mpr hbl
  have h1 : vp_in (nI i + 1) L := ix_L (d := 1) hi (by decide) hL
  have h2 : vp_in (nI i + 2) L := ix_L (d := 2) hi (by decide) hL
  obtain ⟨v, G', M', k5, k6, R'⟩ := hB (xs (nI i + 1).toNatClampNeg) (xs (nI i + 2).toNatClampNeg)
  refine lv_aload_n (pc := 248) hx hb dL_law_248 rfl (lv_at hl 1 rfl) ?_
  refine lv_aload_n (pc := 249) hx hb dL_law_249 rfl (lv_at hl 0 rfl) ?_
  refine lv_iload_n (pc := 250) hx hb dL_law_250 rfl (lv_at hl 3 rfl) ?_
  refine lv_iconst (v := 1) (pc := 251) hx hb dL_law_251 rfl ?_
  refine lv_iadd (pc := 252) hx hb dL_law_252 ?_
  refine va_sld (A := fun q : Nat => s.heap.size ≤ q) (pc := 253) hx hb hX hbl hbA hS h1 dL_law_253 ?_
  refine lv_aload_n (pc := 254) hx hb dL_law_254 rfl (lv_at hl 0 rfl) ?_
  refine lv_iload_n (pc := 255) hx hb dL_law_255 rfl (lv_at hl 3 rfl) ?_
  refine lv_iconst (v := 2) (pc := 256) hx hb dL_law_256 rfl ?_
  refine lv_iadd (pc := 257) hx hb dL_law_257 ?_
  refine va_sld (A := fun q : Nat => s.heap.size ≤ q) (pc := 258) hx hb hX hbl hbA hS h2 dL_law_258 ?_
  refine gcVi (pc := 259) (w1 := wG E g0 bb u0 u1 rr t G' ++ wM E a M) (pre := []) (post := wM E a M) (As := [.int (xs (nI i + 1).toNatClampNeg), .int (xs (nI i + 2).toNatClampNeg)]) (rest := []) (q0 := 0) ⟨hx, hb, hml, hown, hts⟩ k5 (cwV 2 hts gL_law_X5_curve rfl rfl rfl qvX5_curve ⟨Nat.le_of_ble_eq_true rfl, Nat.le_of_ble_eq_true rfl⟩) hK hP hD hS hA rfl rfl rfl rfl rfl hl.1 rfl (Nat.le_of_ble_eq_true rfl) dL_law_259 hf (fun H locs hP hD hS => ?_)
  refine lv_aload_n (pc := 262) hx hb dL_law_262 rfl (lv_at hl 2 rfl) ?_
  refine lv_aload_n (pc := 263) hx hb dL_law_263 rfl (lv_at hl 0 rfl) ?_
  refine lv_iload_n (pc := 264) hx hb dL_law_264 rfl (lv_at hl 3 rfl) ?_
  refine lv_iconst (v := 1) (pc := 265) hx hb dL_law_265 rfl ?_
  refine lv_iadd (pc := 266) hx hb dL_law_266 ?_
  refine va_sld (A := fun q : Nat => s.heap.size ≤ q) (pc := 267) hx hb hX hbl hbA hS h1 dL_law_267 ?_
  refine lv_aload_n (pc := 268) hx hb dL_law_268 rfl (lv_at hl 0 rfl) ?_
  refine lv_iload_n (pc := 269) hx hb dL_law_269 rfl (lv_at hl 3 rfl) ?_
  refine lv_iconst (v := 2) (pc := 270) hx hb dL_law_270 rfl ?_
  refine lv_iadd (pc := 271) hx hb dL_law_271 ?_
  refine va_sld (A := fun q : Nat => s.heap.size ≤ q) (pc := 272) hx hb hX hbl hbA hS h2 dL_law_272 ?_
  refine gcVi (pc := 273) (w1 := wG E g0 bb u0 u1 rr t G' ++ wM E a M') (pre := wG E g0 bb u0 u1 rr t G') (post := []) (As := [.int (xs (nI i + 1).toNatClampNeg), .int (xs (nI i + 2).toNatClampNeg)]) (rest := [.int v]) (q0 := 0) ⟨hx, hb, hml, hown, hts⟩ k6 (cwV 2 hts gL_law_X6_curve rfl rfl rfl qvX6_curve ⟨Nat.le_of_ble_eq_true rfl, Nat.le_of_ble_eq_true rfl⟩) hK hP hD hS hA rfl rfl rfl rfl rfl hl.1 rfl (Nat.le_of_ble_eq_true rfl) dL_law_273 hf (fun H locs hP hD hS => ?_)
  exact lv_icmp_eq (tgt := 683) (pc := 276) hx hb dL_law_276 (by decide) (fun _ => kk G' M' H locs R' hP hD hS) (fun q => absurd rfl q)
set_option maxHeartbeats 4000000 in
set_option maxRecDepth 100000 in
theorem lc_passes (C : lwC p s m c b L xs E) (hL : L ≤ 2048) (hi : i + 3 < L) (hB : ∀ x1 x2 : Int32, gBi l E g0 bb u0 u1 rr t a G M n yX5_passes wsX5_passes rX5_passes yX6_passes wsX6_passes rX6_passes [.int x1, .int x2]) (hf : cells ≤ room_1.cells ∧ slots ≤ room_1.slots) (hP : va_P E.1 vwCl (wG E g0 bb u0 u1 rr t G ++ wM E a M) H) (hD : va_D (fun q : Nat => s.heap.size ≤ q) (wG E g0 bb u0 u1 rr t G ++ wM E a M)) (hS : va_S (fun q : Nat => s.heap.size ≤ q) s.heap H locs) (hl : lv_has ls 4 [(0, .ref b), (1, .ref g0), (2, .ref (a 0)), (3, .int (nI i))])
    (kk : ∀ (G' : GS) (M' : Mdl) (H : Heap) (locs : List Loc), Rel G' M' (n + 40) → va_P E.1 vwCl (wG E g0 bb u0 u1 rr t G' ++ wM E a M') H → va_D (fun q : Nat => s.heap.size ≤ q) (wG E g0 bb u0 u1 rr t G' ++ wM E a M') → va_S (fun q : Nat => s.heap.size ≤ q) s.heap H locs → W p l e room_1 s m #[Value.ref b] below meth c H locs cells slots Q (F0 m 683 ls [])) : W p l e room_1 s m #[Value.ref b] below meth c H locs cells slots Q (F0 m 281 ls []) := by
  obtain ⟨hx, hb, hml, hown, hts, hX, hbl, hK⟩ := C
  have hA : ∀ q : Nat, s.heap.size ≤ q → (fun q : Nat => s.heap.size ≤ q) q := fun _ h => h
  have hbA : ¬ (fun q : Nat => s.heap.size ≤ q) b := Nat.not_le.mpr hbl
  have h1 : vp_in (nI i + 1) L := ix_L (d := 1) hi (by decide) hL
  have h2 : vp_in (nI i + 2) L := ix_L (d := 2) hi (by decide) hL
  obtain ⟨v, G', M', k5, k6, R'⟩ := hB (xs (nI i + 1).toNatClampNeg) (xs (nI i + 2).toNatClampNeg)
  refine lv_aload_n (pc := 281) hx hb dL_law_281 rfl (lv_at hl 1 rfl) ?_
  refine lv_aload_n (pc := 282) hx hb dL_law_282 rfl (lv_at hl 0 rfl) ?_
  refine lv_iload_n (pc := 283) hx hb dL_law_283 rfl (lv_at hl 3 rfl) ?_
  refine lv_iconst (v := 1) (pc := 284) hx hb dL_law_284 rfl ?_
  refine lv_iadd (pc := 285) hx hb dL_law_285 ?_
  refine va_sld (A := fun q : Nat => s.heap.size ≤ q) (pc := 286) hx hb hX hbl hbA hS h1 dL_law_286 ?_
  refine lv_aload_n (pc := 287) hx hb dL_law_287 rfl (lv_at hl 0 rfl) ?_
  refine lv_iload_n (pc := 288) hx hb dL_law_288 rfl (lv_at hl 3 rfl) ?_
  refine lv_iconst (v := 2) (pc := 289) hx hb dL_law_289 rfl ?_
  refine lv_iadd (pc := 290) hx hb dL_law_290 ?_
  refine va_sld (A := fun q : Nat => s.heap.size ≤ q) (pc := 291) hx hb hX hbl hbA hS h2 dL_law_291 ?_
  refine gcVi (pc := 292) (w1 := wG E g0 bb u0 u1 rr t G' ++ wM E a M) (pre := []) (post := wM E a M) (As := [.int (xs (nI i + 1).toNatClampNeg), .int (xs (nI i + 2).toNatClampNeg)]) (rest := []) (q0 := 0) ⟨hx, hb, hml, hown, hts⟩ k5 (cwV 2 hts gL_law_X5_passes rfl rfl rfl qvX5_passes ⟨Nat.le_of_ble_eq_true rfl, Nat.le_of_ble_eq_true rfl⟩) hK hP hD hS hA rfl rfl rfl rfl rfl hl.1 rfl (Nat.le_of_ble_eq_true rfl) dL_law_292 hf (fun H locs hP hD hS => ?_)
  refine lv_aload_n (pc := 295) hx hb dL_law_295 rfl (lv_at hl 2 rfl) ?_
  refine lv_aload_n (pc := 296) hx hb dL_law_296 rfl (lv_at hl 0 rfl) ?_
  refine lv_iload_n (pc := 297) hx hb dL_law_297 rfl (lv_at hl 3 rfl) ?_
  refine lv_iconst (v := 1) (pc := 298) hx hb dL_law_298 rfl ?_
  refine lv_iadd (pc := 299) hx hb dL_law_299 ?_
  refine va_sld (A := fun q : Nat => s.heap.size ≤ q) (pc := 300) hx hb hX hbl hbA hS h1 dL_law_300 ?_
  refine lv_aload_n (pc := 301) hx hb dL_law_301 rfl (lv_at hl 0 rfl) ?_
  refine lv_iload_n (pc := 302) hx hb dL_law_302 rfl (lv_at hl 3 rfl) ?_
  refine lv_iconst (v := 2) (pc := 303) hx hb dL_law_303 rfl ?_
  refine lv_iadd (pc := 304) hx hb dL_law_304 ?_
  refine va_sld (A := fun q : Nat => s.heap.size ≤ q) (pc := 305) hx hb hX hbl hbA hS h2 dL_law_305 ?_
  refine gcVi (pc := 306) (w1 := wG E g0 bb u0 u1 rr t G' ++ wM E a M') (pre := wG E g0 bb u0 u1 rr t G') (post := []) (As := [.int (xs (nI i + 1).toNatClampNeg), .int (xs (nI i + 2).toNatClampNeg)]) (rest := [.int v]) (q0 := 0) ⟨hx, hb, hml, hown, hts⟩ k6 (cwV 2 hts gL_law_X6_passes rfl rfl rfl qvX6_passes ⟨Nat.le_of_ble_eq_true rfl, Nat.le_of_ble_eq_true rfl⟩) hK hP hD hS hA rfl rfl rfl rfl rfl hl.1 rfl (Nat.le_of_ble_eq_true rfl) dL_law_306 hf (fun H locs hP hD hS => ?_)
  exact lv_icmp_eq (tgt := 683) (pc := 309) hx hb dL_law_309 (by decide) (fun _ => kk G' M' H locs R' hP hD hS) (fun q => absurd rfl q)
set_option maxHeartbeats 4000000 in
set_option maxRecDepth 100000 in
theorem lc_rests (C : lwC p s m c b L xs E) (hL : L ≤ 2048) (hi : i + 3 < L) (hB : ∀ x1 : Int32, gBi l E g0 bb u0 u1 rr t a G M n yX5_rests wsX5_rests rX5_rests yX6_rests wsX6_rests rX6_rests [.int x1]) (hf : cells ≤ room_1.cells ∧ slots ≤ room_1.slots) (hP : va_P E.1 vwCl (wG E g0 bb u0 u1 rr t G ++ wM E a M) H) (hD : va_D (fun q : Nat => s.heap.size ≤ q) (wG E g0 bb u0 u1 rr t G ++ wM E a M)) (hS : va_S (fun q : Nat => s.heap.size ≤ q) s.heap H locs) (hl : lv_has ls 4 [(0, .ref b), (1, .ref g0), (2, .ref (a 0)), (3, .int (nI i))])
    (kk : ∀ (G' : GS) (M' : Mdl) (H : Heap) (locs : List Loc), Rel G' M' (n + 40) → va_P E.1 vwCl (wG E g0 bb u0 u1 rr t G' ++ wM E a M') H → va_D (fun q : Nat => s.heap.size ≤ q) (wG E g0 bb u0 u1 rr t G' ++ wM E a M') → va_S (fun q : Nat => s.heap.size ≤ q) s.heap H locs → W p l e room_1 s m #[Value.ref b] below meth c H locs cells slots Q (F0 m 683 ls [])) : W p l e room_1 s m #[Value.ref b] below meth c H locs cells slots Q (F0 m 314 ls []) := by
  obtain ⟨hx, hb, hml, hown, hts, hX, hbl, hK⟩ := C
  have hA : ∀ q : Nat, s.heap.size ≤ q → (fun q : Nat => s.heap.size ≤ q) q := fun _ h => h
  have hbA : ¬ (fun q : Nat => s.heap.size ≤ q) b := Nat.not_le.mpr hbl
  have h1 : vp_in (nI i + 1) L := ix_L (d := 1) hi (by decide) hL
  obtain ⟨v, G', M', k5, k6, R'⟩ := hB (xs (nI i + 1).toNatClampNeg)
  refine lv_aload_n (pc := 314) hx hb dL_law_314 rfl (lv_at hl 1 rfl) ?_
  refine lv_aload_n (pc := 315) hx hb dL_law_315 rfl (lv_at hl 0 rfl) ?_
  refine lv_iload_n (pc := 316) hx hb dL_law_316 rfl (lv_at hl 3 rfl) ?_
  refine lv_iconst (v := 1) (pc := 317) hx hb dL_law_317 rfl ?_
  refine lv_iadd (pc := 318) hx hb dL_law_318 ?_
  refine va_sld (A := fun q : Nat => s.heap.size ≤ q) (pc := 319) hx hb hX hbl hbA hS h1 dL_law_319 ?_
  refine gcVi (pc := 320) (w1 := wG E g0 bb u0 u1 rr t G' ++ wM E a M) (pre := []) (post := wM E a M) (As := [.int (xs (nI i + 1).toNatClampNeg)]) (rest := []) (q0 := 0) ⟨hx, hb, hml, hown, hts⟩ k5 (cwV 1 hts gL_law_X5_rests rfl rfl rfl qvX5_rests ⟨Nat.le_of_ble_eq_true rfl, Nat.le_of_ble_eq_true rfl⟩) hK hP hD hS hA rfl rfl rfl rfl rfl hl.1 rfl (Nat.le_of_ble_eq_true rfl) dL_law_320 hf (fun H locs hP hD hS => ?_)
  refine lv_aload_n (pc := 323) hx hb dL_law_323 rfl (lv_at hl 2 rfl) ?_
  refine lv_aload_n (pc := 324) hx hb dL_law_324 rfl (lv_at hl 0 rfl) ?_
  refine lv_iload_n (pc := 325) hx hb dL_law_325 rfl (lv_at hl 3 rfl) ?_
  refine lv_iconst (v := 1) (pc := 326) hx hb dL_law_326 rfl ?_
  refine lv_iadd (pc := 327) hx hb dL_law_327 ?_
  refine va_sld (A := fun q : Nat => s.heap.size ≤ q) (pc := 328) hx hb hX hbl hbA hS h1 dL_law_328 ?_
  refine gcVi (pc := 329) (w1 := wG E g0 bb u0 u1 rr t G' ++ wM E a M') (pre := wG E g0 bb u0 u1 rr t G') (post := []) (As := [.int (xs (nI i + 1).toNatClampNeg)]) (rest := [.int v]) (q0 := 0) ⟨hx, hb, hml, hown, hts⟩ k6 (cwV 1 hts gL_law_X6_rests rfl rfl rfl qvX6_rests ⟨Nat.le_of_ble_eq_true rfl, Nat.le_of_ble_eq_true rfl⟩) hK hP hD hS hA rfl rfl rfl rfl rfl hl.1 rfl (Nat.le_of_ble_eq_true rfl) dL_law_329 hf (fun H locs hP hD hS => ?_)
  exact lv_icmp_eq (tgt := 683) (pc := 332) hx hb dL_law_332 (by decide) (fun _ => kk G' M' H locs R' hP hD hS) (fun q => absurd rfl q)
set_option maxHeartbeats 4000000 in
set_option maxRecDepth 100000 in
theorem lc_loads (C : lwC p s m c b L xs E) (hL : L ≤ 2048) (hi : i + 3 < L) (hB : ∀ x1 x2 : Int32, gBi l E g0 bb u0 u1 rr t a G M n yX5_loads wsX5_loads rX5_loads yX6_loads wsX6_loads rX6_loads [.int x1, .int x2]) (hf : cells ≤ room_1.cells ∧ slots ≤ room_1.slots) (hP : va_P E.1 vwCl (wG E g0 bb u0 u1 rr t G ++ wM E a M) H) (hD : va_D (fun q : Nat => s.heap.size ≤ q) (wG E g0 bb u0 u1 rr t G ++ wM E a M)) (hS : va_S (fun q : Nat => s.heap.size ≤ q) s.heap H locs) (hl : lv_has ls 4 [(0, .ref b), (1, .ref g0), (2, .ref (a 0)), (3, .int (nI i))])
    (kk : ∀ (G' : GS) (M' : Mdl) (H : Heap) (locs : List Loc), Rel G' M' (n + 40) → va_P E.1 vwCl (wG E g0 bb u0 u1 rr t G' ++ wM E a M') H → va_D (fun q : Nat => s.heap.size ≤ q) (wG E g0 bb u0 u1 rr t G' ++ wM E a M') → va_S (fun q : Nat => s.heap.size ≤ q) s.heap H locs → W p l e room_1 s m #[Value.ref b] below meth c H locs cells slots Q (F0 m 683 ls [])) : W p l e room_1 s m #[Value.ref b] below meth c H locs cells slots Q (F0 m 337 ls []) := by
  obtain ⟨hx, hb, hml, hown, hts, hX, hbl, hK⟩ := C
  have hA : ∀ q : Nat, s.heap.size ≤ q → (fun q : Nat => s.heap.size ≤ q) q := fun _ h => h
  have hbA : ¬ (fun q : Nat => s.heap.size ≤ q) b := Nat.not_le.mpr hbl
  have h1 : vp_in (nI i + 1) L := ix_L (d := 1) hi (by decide) hL
  have h2 : vp_in (nI i + 2) L := ix_L (d := 2) hi (by decide) hL
  obtain ⟨v, G', M', k5, k6, R'⟩ := hB (xs (nI i + 1).toNatClampNeg) (xs (nI i + 2).toNatClampNeg)
  refine lv_aload_n (pc := 337) hx hb dL_law_337 rfl (lv_at hl 1 rfl) ?_
  refine lv_aload_n (pc := 338) hx hb dL_law_338 rfl (lv_at hl 0 rfl) ?_
  refine lv_iload_n (pc := 339) hx hb dL_law_339 rfl (lv_at hl 3 rfl) ?_
  refine lv_iconst (v := 1) (pc := 340) hx hb dL_law_340 rfl ?_
  refine lv_iadd (pc := 341) hx hb dL_law_341 ?_
  refine va_sld (A := fun q : Nat => s.heap.size ≤ q) (pc := 342) hx hb hX hbl hbA hS h1 dL_law_342 ?_
  refine lv_aload_n (pc := 343) hx hb dL_law_343 rfl (lv_at hl 0 rfl) ?_
  refine lv_iload_n (pc := 344) hx hb dL_law_344 rfl (lv_at hl 3 rfl) ?_
  refine lv_iconst (v := 2) (pc := 345) hx hb dL_law_345 rfl ?_
  refine lv_iadd (pc := 346) hx hb dL_law_346 ?_
  refine va_sld (A := fun q : Nat => s.heap.size ≤ q) (pc := 347) hx hb hX hbl hbA hS h2 dL_law_347 ?_
  refine gcVi (pc := 348) (w1 := wG E g0 bb u0 u1 rr t G' ++ wM E a M) (pre := []) (post := wM E a M) (As := [.int (xs (nI i + 1).toNatClampNeg), .int (xs (nI i + 2).toNatClampNeg)]) (rest := []) (q0 := 0) ⟨hx, hb, hml, hown, hts⟩ k5 (cwV 2 hts gL_law_X5_loads rfl rfl rfl qvX5_loads ⟨Nat.le_of_ble_eq_true rfl, Nat.le_of_ble_eq_true rfl⟩) hK hP hD hS hA rfl rfl rfl rfl rfl hl.1 rfl (Nat.le_of_ble_eq_true rfl) dL_law_348 hf (fun H locs hP hD hS => ?_)
  refine lv_aload_n (pc := 351) hx hb dL_law_351 rfl (lv_at hl 2 rfl) ?_
  refine lv_aload_n (pc := 352) hx hb dL_law_352 rfl (lv_at hl 0 rfl) ?_
  refine lv_iload_n (pc := 353) hx hb dL_law_353 rfl (lv_at hl 3 rfl) ?_
  refine lv_iconst (v := 1) (pc := 354) hx hb dL_law_354 rfl ?_
  refine lv_iadd (pc := 355) hx hb dL_law_355 ?_
  refine va_sld (A := fun q : Nat => s.heap.size ≤ q) (pc := 356) hx hb hX hbl hbA hS h1 dL_law_356 ?_
  refine lv_aload_n (pc := 357) hx hb dL_law_357 rfl (lv_at hl 0 rfl) ?_
  refine lv_iload_n (pc := 358) hx hb dL_law_358 rfl (lv_at hl 3 rfl) ?_
  refine lv_iconst (v := 2) (pc := 359) hx hb dL_law_359 rfl ?_
  refine lv_iadd (pc := 360) hx hb dL_law_360 ?_
  refine va_sld (A := fun q : Nat => s.heap.size ≤ q) (pc := 361) hx hb hX hbl hbA hS h2 dL_law_361 ?_
  refine gcVi (pc := 362) (w1 := wG E g0 bb u0 u1 rr t G' ++ wM E a M') (pre := wG E g0 bb u0 u1 rr t G') (post := []) (As := [.int (xs (nI i + 1).toNatClampNeg), .int (xs (nI i + 2).toNatClampNeg)]) (rest := [.int v]) (q0 := 0) ⟨hx, hb, hml, hown, hts⟩ k6 (cwV 2 hts gL_law_X6_loads rfl rfl rfl qvX6_loads ⟨Nat.le_of_ble_eq_true rfl, Nat.le_of_ble_eq_true rfl⟩) hK hP hD hS hA rfl rfl rfl rfl rfl hl.1 rfl (Nat.le_of_ble_eq_true rfl) dL_law_362 hf (fun H locs hP hD hS => ?_)
  exact lv_icmp_eq (tgt := 683) (pc := 365) hx hb dL_law_365 (by decide) (fun _ => kk G' M' H locs R' hP hD hS) (fun q => absurd rfl q)
set_option maxHeartbeats 4000000 in
set_option maxRecDepth 100000 in
theorem lc_told (C : lwC p s m c b L xs E) (hL : L ≤ 2048) (hi : i + 3 < L) (hB : ∀ x1 : Int32, gBi l E g0 bb u0 u1 rr t a G M n yX5_told wsX5_told rX5_told yX6_told wsX6_told rX6_told [.int x1]) (hf : cells ≤ room_1.cells ∧ slots ≤ room_1.slots) (hP : va_P E.1 vwCl (wG E g0 bb u0 u1 rr t G ++ wM E a M) H) (hD : va_D (fun q : Nat => s.heap.size ≤ q) (wG E g0 bb u0 u1 rr t G ++ wM E a M)) (hS : va_S (fun q : Nat => s.heap.size ≤ q) s.heap H locs) (hl : lv_has ls 4 [(0, .ref b), (1, .ref g0), (2, .ref (a 0)), (3, .int (nI i))])
    (kk : ∀ (G' : GS) (M' : Mdl) (H : Heap) (locs : List Loc), Rel G' M' (n + 40) → va_P E.1 vwCl (wG E g0 bb u0 u1 rr t G' ++ wM E a M') H → va_D (fun q : Nat => s.heap.size ≤ q) (wG E g0 bb u0 u1 rr t G' ++ wM E a M') → va_S (fun q : Nat => s.heap.size ≤ q) s.heap H locs → W p l e room_1 s m #[Value.ref b] below meth c H locs cells slots Q (F0 m 683 ls [])) : W p l e room_1 s m #[Value.ref b] below meth c H locs cells slots Q (F0 m 370 ls []) := by
  obtain ⟨hx, hb, hml, hown, hts, hX, hbl, hK⟩ := C
  have hA : ∀ q : Nat, s.heap.size ≤ q → (fun q : Nat => s.heap.size ≤ q) q := fun _ h => h
  have hbA : ¬ (fun q : Nat => s.heap.size ≤ q) b := Nat.not_le.mpr hbl
  have h1 : vp_in (nI i + 1) L := ix_L (d := 1) hi (by decide) hL
  obtain ⟨v, G', M', k5, k6, R'⟩ := hB (xs (nI i + 1).toNatClampNeg)
  refine lv_aload_n (pc := 370) hx hb dL_law_370 rfl (lv_at hl 1 rfl) ?_
  refine lv_aload_n (pc := 371) hx hb dL_law_371 rfl (lv_at hl 0 rfl) ?_
  refine lv_iload_n (pc := 372) hx hb dL_law_372 rfl (lv_at hl 3 rfl) ?_
  refine lv_iconst (v := 1) (pc := 373) hx hb dL_law_373 rfl ?_
  refine lv_iadd (pc := 374) hx hb dL_law_374 ?_
  refine va_sld (A := fun q : Nat => s.heap.size ≤ q) (pc := 375) hx hb hX hbl hbA hS h1 dL_law_375 ?_
  refine gcVi (pc := 376) (w1 := wG E g0 bb u0 u1 rr t G' ++ wM E a M) (pre := []) (post := wM E a M) (As := [.int (xs (nI i + 1).toNatClampNeg)]) (rest := []) (q0 := 0) ⟨hx, hb, hml, hown, hts⟩ k5 (cwV 1 hts gL_law_X5_told rfl rfl rfl qvX5_told ⟨Nat.le_of_ble_eq_true rfl, Nat.le_of_ble_eq_true rfl⟩) hK hP hD hS hA rfl rfl rfl rfl rfl hl.1 rfl (Nat.le_of_ble_eq_true rfl) dL_law_376 hf (fun H locs hP hD hS => ?_)
  refine lv_aload_n (pc := 379) hx hb dL_law_379 rfl (lv_at hl 2 rfl) ?_
  refine lv_aload_n (pc := 380) hx hb dL_law_380 rfl (lv_at hl 0 rfl) ?_
  refine lv_iload_n (pc := 381) hx hb dL_law_381 rfl (lv_at hl 3 rfl) ?_
  refine lv_iconst (v := 1) (pc := 382) hx hb dL_law_382 rfl ?_
  refine lv_iadd (pc := 383) hx hb dL_law_383 ?_
  refine va_sld (A := fun q : Nat => s.heap.size ≤ q) (pc := 384) hx hb hX hbl hbA hS h1 dL_law_384 ?_
  refine gcVi (pc := 385) (w1 := wG E g0 bb u0 u1 rr t G' ++ wM E a M') (pre := wG E g0 bb u0 u1 rr t G') (post := []) (As := [.int (xs (nI i + 1).toNatClampNeg)]) (rest := [.int v]) (q0 := 0) ⟨hx, hb, hml, hown, hts⟩ k6 (cwV 1 hts gL_law_X6_told rfl rfl rfl qvX6_told ⟨Nat.le_of_ble_eq_true rfl, Nat.le_of_ble_eq_true rfl⟩) hK hP hD hS hA rfl rfl rfl rfl rfl hl.1 rfl (Nat.le_of_ble_eq_true rfl) dL_law_385 hf (fun H locs hP hD hS => ?_)
  exact lv_icmp_eq (tgt := 683) (pc := 388) hx hb dL_law_388 (by decide) (fun _ => kk G' M' H locs R' hP hD hS) (fun q => absurd rfl q)
set_option maxHeartbeats 4000000 in
set_option maxRecDepth 100000 in
theorem lc_volts (C : lwC p s m c b L xs E) (hL : L ≤ 2048) (hi : i + 3 < L) (hB : ∀ x1 : Int32, gBi l E g0 bb u0 u1 rr t a G M n yX5_volts wsX5_volts rX5_volts yX6_volts wsX6_volts rX6_volts [.int x1]) (hf : cells ≤ room_1.cells ∧ slots ≤ room_1.slots) (hP : va_P E.1 vwCl (wG E g0 bb u0 u1 rr t G ++ wM E a M) H) (hD : va_D (fun q : Nat => s.heap.size ≤ q) (wG E g0 bb u0 u1 rr t G ++ wM E a M)) (hS : va_S (fun q : Nat => s.heap.size ≤ q) s.heap H locs) (hl : lv_has ls 4 [(0, .ref b), (1, .ref g0), (2, .ref (a 0)), (3, .int (nI i))])
    (kk : ∀ (G' : GS) (M' : Mdl) (H : Heap) (locs : List Loc), Rel G' M' (n + 40) → va_P E.1 vwCl (wG E g0 bb u0 u1 rr t G' ++ wM E a M') H → va_D (fun q : Nat => s.heap.size ≤ q) (wG E g0 bb u0 u1 rr t G' ++ wM E a M') → va_S (fun q : Nat => s.heap.size ≤ q) s.heap H locs → W p l e room_1 s m #[Value.ref b] below meth c H locs cells slots Q (F0 m 683 ls [])) : W p l e room_1 s m #[Value.ref b] below meth c H locs cells slots Q (F0 m 393 ls []) := by
  obtain ⟨hx, hb, hml, hown, hts, hX, hbl, hK⟩ := C
  have hA : ∀ q : Nat, s.heap.size ≤ q → (fun q : Nat => s.heap.size ≤ q) q := fun _ h => h
  have hbA : ¬ (fun q : Nat => s.heap.size ≤ q) b := Nat.not_le.mpr hbl
  have h1 : vp_in (nI i + 1) L := ix_L (d := 1) hi (by decide) hL
  obtain ⟨v, G', M', k5, k6, R'⟩ := hB (xs (nI i + 1).toNatClampNeg)
  refine lv_aload_n (pc := 393) hx hb dL_law_393 rfl (lv_at hl 1 rfl) ?_
  refine lv_aload_n (pc := 394) hx hb dL_law_394 rfl (lv_at hl 0 rfl) ?_
  refine lv_iload_n (pc := 395) hx hb dL_law_395 rfl (lv_at hl 3 rfl) ?_
  refine lv_iconst (v := 1) (pc := 396) hx hb dL_law_396 rfl ?_
  refine lv_iadd (pc := 397) hx hb dL_law_397 ?_
  refine va_sld (A := fun q : Nat => s.heap.size ≤ q) (pc := 398) hx hb hX hbl hbA hS h1 dL_law_398 ?_
  refine gcVi (pc := 399) (w1 := wG E g0 bb u0 u1 rr t G' ++ wM E a M) (pre := []) (post := wM E a M) (As := [.int (xs (nI i + 1).toNatClampNeg)]) (rest := []) (q0 := 0) ⟨hx, hb, hml, hown, hts⟩ k5 (cwV 1 hts gL_law_X5_volts rfl rfl rfl qvX5_volts ⟨Nat.le_of_ble_eq_true rfl, Nat.le_of_ble_eq_true rfl⟩) hK hP hD hS hA rfl rfl rfl rfl rfl hl.1 rfl (Nat.le_of_ble_eq_true rfl) dL_law_399 hf (fun H locs hP hD hS => ?_)
  refine lv_aload_n (pc := 402) hx hb dL_law_402 rfl (lv_at hl 2 rfl) ?_
  refine lv_aload_n (pc := 403) hx hb dL_law_403 rfl (lv_at hl 0 rfl) ?_
  refine lv_iload_n (pc := 404) hx hb dL_law_404 rfl (lv_at hl 3 rfl) ?_
  refine lv_iconst (v := 1) (pc := 405) hx hb dL_law_405 rfl ?_
  refine lv_iadd (pc := 406) hx hb dL_law_406 ?_
  refine va_sld (A := fun q : Nat => s.heap.size ≤ q) (pc := 407) hx hb hX hbl hbA hS h1 dL_law_407 ?_
  refine gcVi (pc := 408) (w1 := wG E g0 bb u0 u1 rr t G' ++ wM E a M') (pre := wG E g0 bb u0 u1 rr t G') (post := []) (As := [.int (xs (nI i + 1).toNatClampNeg)]) (rest := [.int v]) (q0 := 0) ⟨hx, hb, hml, hown, hts⟩ k6 (cwV 1 hts gL_law_X6_volts rfl rfl rfl qvX6_volts ⟨Nat.le_of_ble_eq_true rfl, Nat.le_of_ble_eq_true rfl⟩) hK hP hD hS hA rfl rfl rfl rfl rfl hl.1 rfl (Nat.le_of_ble_eq_true rfl) dL_law_408 hf (fun H locs hP hD hS => ?_)
  exact lv_icmp_eq (tgt := 683) (pc := 411) hx hb dL_law_411 (by decide) (fun _ => kk G' M' H locs R' hP hD hS) (fun q => absurd rfl q)
set_option maxHeartbeats 4000000 in
set_option maxRecDepth 100000 in
theorem lc_inverse (C : lwC p s m c b L xs E) (hL : L ≤ 2048) (hi : i + 3 < L) (hB : ∀ x1 x2 : Int32, gBi l E g0 bb u0 u1 rr t a G M n yX5_inverse wsX5_inverse rX5_inverse yX6_inverse wsX6_inverse rX6_inverse [.int x1, .int x2]) (hf : cells ≤ room_1.cells ∧ slots ≤ room_1.slots) (hP : va_P E.1 vwCl (wG E g0 bb u0 u1 rr t G ++ wM E a M) H) (hD : va_D (fun q : Nat => s.heap.size ≤ q) (wG E g0 bb u0 u1 rr t G ++ wM E a M)) (hS : va_S (fun q : Nat => s.heap.size ≤ q) s.heap H locs) (hl : lv_has ls 4 [(0, .ref b), (1, .ref g0), (2, .ref (a 0)), (3, .int (nI i))])
    (kk : ∀ (G' : GS) (M' : Mdl) (H : Heap) (locs : List Loc), Rel G' M' (n + 40) → va_P E.1 vwCl (wG E g0 bb u0 u1 rr t G' ++ wM E a M') H → va_D (fun q : Nat => s.heap.size ≤ q) (wG E g0 bb u0 u1 rr t G' ++ wM E a M') → va_S (fun q : Nat => s.heap.size ≤ q) s.heap H locs → W p l e room_1 s m #[Value.ref b] below meth c H locs cells slots Q (F0 m 683 ls [])) : W p l e room_1 s m #[Value.ref b] below meth c H locs cells slots Q (F0 m 416 ls []) := by
  obtain ⟨hx, hb, hml, hown, hts, hX, hbl, hK⟩ := C
  have hA : ∀ q : Nat, s.heap.size ≤ q → (fun q : Nat => s.heap.size ≤ q) q := fun _ h => h
  have hbA : ¬ (fun q : Nat => s.heap.size ≤ q) b := Nat.not_le.mpr hbl
  have h1 : vp_in (nI i + 1) L := ix_L (d := 1) hi (by decide) hL
  have h2 : vp_in (nI i + 2) L := ix_L (d := 2) hi (by decide) hL
  obtain ⟨v, G', M', k5, k6, R'⟩ := hB (xs (nI i + 1).toNatClampNeg) (xs (nI i + 2).toNatClampNeg)
  refine lv_aload_n (pc := 416) hx hb dL_law_416 rfl (lv_at hl 1 rfl) ?_
  refine lv_aload_n (pc := 417) hx hb dL_law_417 rfl (lv_at hl 0 rfl) ?_
  refine lv_iload_n (pc := 418) hx hb dL_law_418 rfl (lv_at hl 3 rfl) ?_
  refine lv_iconst (v := 1) (pc := 419) hx hb dL_law_419 rfl ?_
  refine lv_iadd (pc := 420) hx hb dL_law_420 ?_
  refine va_sld (A := fun q : Nat => s.heap.size ≤ q) (pc := 421) hx hb hX hbl hbA hS h1 dL_law_421 ?_
  refine lv_aload_n (pc := 422) hx hb dL_law_422 rfl (lv_at hl 0 rfl) ?_
  refine lv_iload_n (pc := 423) hx hb dL_law_423 rfl (lv_at hl 3 rfl) ?_
  refine lv_iconst (v := 2) (pc := 424) hx hb dL_law_424 rfl ?_
  refine lv_iadd (pc := 425) hx hb dL_law_425 ?_
  refine va_sld (A := fun q : Nat => s.heap.size ≤ q) (pc := 426) hx hb hX hbl hbA hS h2 dL_law_426 ?_
  refine gcVi (pc := 427) (w1 := wG E g0 bb u0 u1 rr t G' ++ wM E a M) (pre := []) (post := wM E a M) (As := [.int (xs (nI i + 1).toNatClampNeg), .int (xs (nI i + 2).toNatClampNeg)]) (rest := []) (q0 := 0) ⟨hx, hb, hml, hown, hts⟩ k5 (cwV 2 hts gL_law_X5_inverse rfl rfl rfl qvX5_inverse ⟨Nat.le_of_ble_eq_true rfl, Nat.le_of_ble_eq_true rfl⟩) hK hP hD hS hA rfl rfl rfl rfl rfl hl.1 rfl (Nat.le_of_ble_eq_true rfl) dL_law_427 hf (fun H locs hP hD hS => ?_)
  refine lv_aload_n (pc := 430) hx hb dL_law_430 rfl (lv_at hl 2 rfl) ?_
  refine lv_aload_n (pc := 431) hx hb dL_law_431 rfl (lv_at hl 0 rfl) ?_
  refine lv_iload_n (pc := 432) hx hb dL_law_432 rfl (lv_at hl 3 rfl) ?_
  refine lv_iconst (v := 1) (pc := 433) hx hb dL_law_433 rfl ?_
  refine lv_iadd (pc := 434) hx hb dL_law_434 ?_
  refine va_sld (A := fun q : Nat => s.heap.size ≤ q) (pc := 435) hx hb hX hbl hbA hS h1 dL_law_435 ?_
  refine lv_aload_n (pc := 436) hx hb dL_law_436 rfl (lv_at hl 0 rfl) ?_
  refine lv_iload_n (pc := 437) hx hb dL_law_437 rfl (lv_at hl 3 rfl) ?_
  refine lv_iconst (v := 2) (pc := 438) hx hb dL_law_438 rfl ?_
  refine lv_iadd (pc := 439) hx hb dL_law_439 ?_
  refine va_sld (A := fun q : Nat => s.heap.size ≤ q) (pc := 440) hx hb hX hbl hbA hS h2 dL_law_440 ?_
  refine gcVi (pc := 441) (w1 := wG E g0 bb u0 u1 rr t G' ++ wM E a M') (pre := wG E g0 bb u0 u1 rr t G') (post := []) (As := [.int (xs (nI i + 1).toNatClampNeg), .int (xs (nI i + 2).toNatClampNeg)]) (rest := [.int v]) (q0 := 0) ⟨hx, hb, hml, hown, hts⟩ k6 (cwV 2 hts gL_law_X6_inverse rfl rfl rfl qvX6_inverse ⟨Nat.le_of_ble_eq_true rfl, Nat.le_of_ble_eq_true rfl⟩) hK hP hD hS hA rfl rfl rfl rfl rfl hl.1 rfl (Nat.le_of_ble_eq_true rfl) dL_law_441 hf (fun H locs hP hD hS => ?_)
  exact lv_icmp_eq (tgt := 683) (pc := 444) hx hb dL_law_444 (by decide) (fun _ => kk G' M' H locs R' hP hD hS) (fun q => absurd rfl q)
set_option maxHeartbeats 4000000 in
set_option maxRecDepth 100000 in
theorem lc_band (C : lwC p s m c b L xs E) (hL : L ≤ 2048) (hi : i + 3 < L) (hB : ∀ x1 x2 x3 : Int32, gBi l E g0 bb u0 u1 rr t a G M n yX5_band wsX5_band rX5_band yX6_band wsX6_band rX6_band [.int x1, .int x2, .int x3]) (hf : cells ≤ room_1.cells ∧ slots ≤ room_1.slots) (hP : va_P E.1 vwCl (wG E g0 bb u0 u1 rr t G ++ wM E a M) H) (hD : va_D (fun q : Nat => s.heap.size ≤ q) (wG E g0 bb u0 u1 rr t G ++ wM E a M)) (hS : va_S (fun q : Nat => s.heap.size ≤ q) s.heap H locs) (hl : lv_has ls 4 [(0, .ref b), (1, .ref g0), (2, .ref (a 0)), (3, .int (nI i))])
    (kk : ∀ (G' : GS) (M' : Mdl) (H : Heap) (locs : List Loc), Rel G' M' (n + 40) → va_P E.1 vwCl (wG E g0 bb u0 u1 rr t G' ++ wM E a M') H → va_D (fun q : Nat => s.heap.size ≤ q) (wG E g0 bb u0 u1 rr t G' ++ wM E a M') → va_S (fun q : Nat => s.heap.size ≤ q) s.heap H locs → W p l e room_1 s m #[Value.ref b] below meth c H locs cells slots Q (F0 m 683 ls [])) : W p l e room_1 s m #[Value.ref b] below meth c H locs cells slots Q (F0 m 449 ls []) := by
  obtain ⟨hx, hb, hml, hown, hts, hX, hbl, hK⟩ := C
  have hA : ∀ q : Nat, s.heap.size ≤ q → (fun q : Nat => s.heap.size ≤ q) q := fun _ h => h
  have hbA : ¬ (fun q : Nat => s.heap.size ≤ q) b := Nat.not_le.mpr hbl
  have h1 : vp_in (nI i + 1) L := ix_L (d := 1) hi (by decide) hL
  have h2 : vp_in (nI i + 2) L := ix_L (d := 2) hi (by decide) hL
  have h3 : vp_in (nI i + 3) L := ix_L (d := 3) hi (by decide) hL
  obtain ⟨v, G', M', k5, k6, R'⟩ := hB (xs (nI i + 1).toNatClampNeg) (xs (nI i + 2).toNatClampNeg) (xs (nI i + 3).toNatClampNeg)
  refine lv_aload_n (pc := 449) hx hb dL_law_449 rfl (lv_at hl 1 rfl) ?_
  refine lv_aload_n (pc := 450) hx hb dL_law_450 rfl (lv_at hl 0 rfl) ?_
  refine lv_iload_n (pc := 451) hx hb dL_law_451 rfl (lv_at hl 3 rfl) ?_
  refine lv_iconst (v := 1) (pc := 452) hx hb dL_law_452 rfl ?_
  refine lv_iadd (pc := 453) hx hb dL_law_453 ?_
  refine va_sld (A := fun q : Nat => s.heap.size ≤ q) (pc := 454) hx hb hX hbl hbA hS h1 dL_law_454 ?_
  refine lv_aload_n (pc := 455) hx hb dL_law_455 rfl (lv_at hl 0 rfl) ?_
  refine lv_iload_n (pc := 456) hx hb dL_law_456 rfl (lv_at hl 3 rfl) ?_
  refine lv_iconst (v := 2) (pc := 457) hx hb dL_law_457 rfl ?_
  refine lv_iadd (pc := 458) hx hb dL_law_458 ?_
  refine va_sld (A := fun q : Nat => s.heap.size ≤ q) (pc := 459) hx hb hX hbl hbA hS h2 dL_law_459 ?_
  refine lv_aload_n (pc := 460) hx hb dL_law_460 rfl (lv_at hl 0 rfl) ?_
  refine lv_iload_n (pc := 461) hx hb dL_law_461 rfl (lv_at hl 3 rfl) ?_
  refine lv_iconst (v := 3) (pc := 462) hx hb dL_law_462 rfl ?_
  refine lv_iadd (pc := 463) hx hb dL_law_463 ?_
  refine va_sld (A := fun q : Nat => s.heap.size ≤ q) (pc := 464) hx hb hX hbl hbA hS h3 dL_law_464 ?_
  refine gcVi (pc := 465) (w1 := wG E g0 bb u0 u1 rr t G' ++ wM E a M) (pre := []) (post := wM E a M) (As := [.int (xs (nI i + 1).toNatClampNeg), .int (xs (nI i + 2).toNatClampNeg), .int (xs (nI i + 3).toNatClampNeg)]) (rest := []) (q0 := 0) ⟨hx, hb, hml, hown, hts⟩ k5 (cwV 3 hts gL_law_X5_band rfl rfl rfl qvX5_band ⟨Nat.le_of_ble_eq_true rfl, Nat.le_of_ble_eq_true rfl⟩) hK hP hD hS hA rfl rfl rfl rfl rfl hl.1 rfl (Nat.le_of_ble_eq_true rfl) dL_law_465 hf (fun H locs hP hD hS => ?_)
  refine lv_aload_n (pc := 468) hx hb dL_law_468 rfl (lv_at hl 2 rfl) ?_
  refine lv_aload_n (pc := 469) hx hb dL_law_469 rfl (lv_at hl 0 rfl) ?_
  refine lv_iload_n (pc := 470) hx hb dL_law_470 rfl (lv_at hl 3 rfl) ?_
  refine lv_iconst (v := 1) (pc := 471) hx hb dL_law_471 rfl ?_
  refine lv_iadd (pc := 472) hx hb dL_law_472 ?_
  refine va_sld (A := fun q : Nat => s.heap.size ≤ q) (pc := 473) hx hb hX hbl hbA hS h1 dL_law_473 ?_
  refine lv_aload_n (pc := 474) hx hb dL_law_474 rfl (lv_at hl 0 rfl) ?_
  refine lv_iload_n (pc := 475) hx hb dL_law_475 rfl (lv_at hl 3 rfl) ?_
  refine lv_iconst (v := 2) (pc := 476) hx hb dL_law_476 rfl ?_
  refine lv_iadd (pc := 477) hx hb dL_law_477 ?_
  refine va_sld (A := fun q : Nat => s.heap.size ≤ q) (pc := 478) hx hb hX hbl hbA hS h2 dL_law_478 ?_
  refine lv_aload_n (pc := 479) hx hb dL_law_479 rfl (lv_at hl 0 rfl) ?_
  refine lv_iload_n (pc := 480) hx hb dL_law_480 rfl (lv_at hl 3 rfl) ?_
  refine lv_iconst (v := 3) (pc := 481) hx hb dL_law_481 rfl ?_
  refine lv_iadd (pc := 482) hx hb dL_law_482 ?_
  refine va_sld (A := fun q : Nat => s.heap.size ≤ q) (pc := 483) hx hb hX hbl hbA hS h3 dL_law_483 ?_
  refine gcVi (pc := 484) (w1 := wG E g0 bb u0 u1 rr t G' ++ wM E a M') (pre := wG E g0 bb u0 u1 rr t G') (post := []) (As := [.int (xs (nI i + 1).toNatClampNeg), .int (xs (nI i + 2).toNatClampNeg), .int (xs (nI i + 3).toNatClampNeg)]) (rest := [.int v]) (q0 := 0) ⟨hx, hb, hml, hown, hts⟩ k6 (cwV 3 hts gL_law_X6_band rfl rfl rfl qvX6_band ⟨Nat.le_of_ble_eq_true rfl, Nat.le_of_ble_eq_true rfl⟩) hK hP hD hS hA rfl rfl rfl rfl rfl hl.1 rfl (Nat.le_of_ble_eq_true rfl) dL_law_484 hf (fun H locs hP hD hS => ?_)
  exact lv_icmp_eq (tgt := 683) (pc := 487) hx hb dL_law_487 (by decide) (fun _ => kk G' M' H locs R' hP hD hS) (fun q => absurd rfl q)
set_option maxHeartbeats 4000000 in
set_option maxRecDepth 100000 in
theorem lc_bands (C : lwC p s m c b L xs E) (hL : L ≤ 2048) (hi : i + 3 < L) (hB : gBi l E g0 bb u0 u1 rr t a G M n yX5_bands wsX5_bands rX5_bands yX6_bands wsX6_bands rX6_bands []) (hf : cells ≤ room_1.cells ∧ slots ≤ room_1.slots) (hP : va_P E.1 vwCl (wG E g0 bb u0 u1 rr t G ++ wM E a M) H) (hD : va_D (fun q : Nat => s.heap.size ≤ q) (wG E g0 bb u0 u1 rr t G ++ wM E a M)) (hS : va_S (fun q : Nat => s.heap.size ≤ q) s.heap H locs) (hl : lv_has ls 4 [(0, .ref b), (1, .ref g0), (2, .ref (a 0)), (3, .int (nI i))])
    (kk : ∀ (G' : GS) (M' : Mdl) (H : Heap) (locs : List Loc), Rel G' M' (n + 40) → va_P E.1 vwCl (wG E g0 bb u0 u1 rr t G' ++ wM E a M') H → va_D (fun q : Nat => s.heap.size ≤ q) (wG E g0 bb u0 u1 rr t G' ++ wM E a M') → va_S (fun q : Nat => s.heap.size ≤ q) s.heap H locs → W p l e room_1 s m #[Value.ref b] below meth c H locs cells slots Q (F0 m 683 ls [])) : W p l e room_1 s m #[Value.ref b] below meth c H locs cells slots Q (F0 m 492 ls []) := by
  obtain ⟨hx, hb, hml, hown, hts, hX, hbl, hK⟩ := C
  have hA : ∀ q : Nat, s.heap.size ≤ q → (fun q : Nat => s.heap.size ≤ q) q := fun _ h => h
  have hbA : ¬ (fun q : Nat => s.heap.size ≤ q) b := Nat.not_le.mpr hbl
  obtain ⟨v, G', M', k5, k6, R'⟩ := hB
  refine lv_aload_n (pc := 492) hx hb dL_law_492 rfl (lv_at hl 1 rfl) ?_
  refine gcVi (pc := 493) (w1 := wG E g0 bb u0 u1 rr t G' ++ wM E a M) (pre := []) (post := wM E a M) (As := []) (rest := []) (q0 := 0) ⟨hx, hb, hml, hown, hts⟩ k5 (cwV 0 hts gL_law_X5_bands rfl rfl rfl qvX5_bands ⟨Nat.le_of_ble_eq_true rfl, Nat.le_of_ble_eq_true rfl⟩) hK hP hD hS hA rfl rfl rfl rfl rfl hl.1 rfl (Nat.le_of_ble_eq_true rfl) dL_law_493 hf (fun H locs hP hD hS => ?_)
  refine lv_aload_n (pc := 496) hx hb dL_law_496 rfl (lv_at hl 2 rfl) ?_
  refine gcVi (pc := 497) (w1 := wG E g0 bb u0 u1 rr t G' ++ wM E a M') (pre := wG E g0 bb u0 u1 rr t G') (post := []) (As := []) (rest := [.int v]) (q0 := 0) ⟨hx, hb, hml, hown, hts⟩ k6 (cwV 0 hts gL_law_X6_bands rfl rfl rfl qvX6_bands ⟨Nat.le_of_ble_eq_true rfl, Nat.le_of_ble_eq_true rfl⟩) hK hP hD hS hA rfl rfl rfl rfl rfl hl.1 rfl (Nat.le_of_ble_eq_true rfl) dL_law_497 hf (fun H locs hP hD hS => ?_)
  exact lv_icmp_eq (tgt := 683) (pc := 500) hx hb dL_law_500 (by decide) (fun _ => kk G' M' H locs R' hP hD hS) (fun q => absurd rfl q)
set_option maxHeartbeats 4000000 in
set_option maxRecDepth 100000 in
theorem lc_lasts (C : lwC p s m c b L xs E) (hL : L ≤ 2048) (hi : i + 3 < L) (hB : ∀ x1 x2 : Int32, gBi l E g0 bb u0 u1 rr t a G M n yX5_lasts wsX5_lasts rX5_lasts yX6_lasts wsX6_lasts rX6_lasts [.int x1, .int x2]) (hf : cells ≤ room_1.cells ∧ slots ≤ room_1.slots) (hP : va_P E.1 vwCl (wG E g0 bb u0 u1 rr t G ++ wM E a M) H) (hD : va_D (fun q : Nat => s.heap.size ≤ q) (wG E g0 bb u0 u1 rr t G ++ wM E a M)) (hS : va_S (fun q : Nat => s.heap.size ≤ q) s.heap H locs) (hl : lv_has ls 4 [(0, .ref b), (1, .ref g0), (2, .ref (a 0)), (3, .int (nI i))])
    (kk : ∀ (G' : GS) (M' : Mdl) (H : Heap) (locs : List Loc), Rel G' M' (n + 40) → va_P E.1 vwCl (wG E g0 bb u0 u1 rr t G' ++ wM E a M') H → va_D (fun q : Nat => s.heap.size ≤ q) (wG E g0 bb u0 u1 rr t G' ++ wM E a M') → va_S (fun q : Nat => s.heap.size ≤ q) s.heap H locs → W p l e room_1 s m #[Value.ref b] below meth c H locs cells slots Q (F0 m 683 ls [])) : W p l e room_1 s m #[Value.ref b] below meth c H locs cells slots Q (F0 m 505 ls []) := by
  obtain ⟨hx, hb, hml, hown, hts, hX, hbl, hK⟩ := C
  have hA : ∀ q : Nat, s.heap.size ≤ q → (fun q : Nat => s.heap.size ≤ q) q := fun _ h => h
  have hbA : ¬ (fun q : Nat => s.heap.size ≤ q) b := Nat.not_le.mpr hbl
  have h1 : vp_in (nI i + 1) L := ix_L (d := 1) hi (by decide) hL
  have h2 : vp_in (nI i + 2) L := ix_L (d := 2) hi (by decide) hL
  obtain ⟨v, G', M', k5, k6, R'⟩ := hB (xs (nI i + 1).toNatClampNeg) (xs (nI i + 2).toNatClampNeg)
  refine lv_aload_n (pc := 505) hx hb dL_law_505 rfl (lv_at hl 1 rfl) ?_
  refine lv_aload_n (pc := 506) hx hb dL_law_506 rfl (lv_at hl 0 rfl) ?_
  refine lv_iload_n (pc := 507) hx hb dL_law_507 rfl (lv_at hl 3 rfl) ?_
  refine lv_iconst (v := 1) (pc := 508) hx hb dL_law_508 rfl ?_
  refine lv_iadd (pc := 509) hx hb dL_law_509 ?_
  refine va_sld (A := fun q : Nat => s.heap.size ≤ q) (pc := 510) hx hb hX hbl hbA hS h1 dL_law_510 ?_
  refine lv_aload_n (pc := 511) hx hb dL_law_511 rfl (lv_at hl 0 rfl) ?_
  refine lv_iload_n (pc := 512) hx hb dL_law_512 rfl (lv_at hl 3 rfl) ?_
  refine lv_iconst (v := 2) (pc := 513) hx hb dL_law_513 rfl ?_
  refine lv_iadd (pc := 514) hx hb dL_law_514 ?_
  refine va_sld (A := fun q : Nat => s.heap.size ≤ q) (pc := 515) hx hb hX hbl hbA hS h2 dL_law_515 ?_
  refine gcVi (pc := 516) (w1 := wG E g0 bb u0 u1 rr t G' ++ wM E a M) (pre := []) (post := wM E a M) (As := [.int (xs (nI i + 1).toNatClampNeg), .int (xs (nI i + 2).toNatClampNeg)]) (rest := []) (q0 := 0) ⟨hx, hb, hml, hown, hts⟩ k5 (cwV 2 hts gL_law_X5_lasts rfl rfl rfl qvX5_lasts ⟨Nat.le_of_ble_eq_true rfl, Nat.le_of_ble_eq_true rfl⟩) hK hP hD hS hA rfl rfl rfl rfl rfl hl.1 rfl (Nat.le_of_ble_eq_true rfl) dL_law_516 hf (fun H locs hP hD hS => ?_)
  refine lv_aload_n (pc := 519) hx hb dL_law_519 rfl (lv_at hl 2 rfl) ?_
  refine lv_aload_n (pc := 520) hx hb dL_law_520 rfl (lv_at hl 0 rfl) ?_
  refine lv_iload_n (pc := 521) hx hb dL_law_521 rfl (lv_at hl 3 rfl) ?_
  refine lv_iconst (v := 1) (pc := 522) hx hb dL_law_522 rfl ?_
  refine lv_iadd (pc := 523) hx hb dL_law_523 ?_
  refine va_sld (A := fun q : Nat => s.heap.size ≤ q) (pc := 524) hx hb hX hbl hbA hS h1 dL_law_524 ?_
  refine lv_aload_n (pc := 525) hx hb dL_law_525 rfl (lv_at hl 0 rfl) ?_
  refine lv_iload_n (pc := 526) hx hb dL_law_526 rfl (lv_at hl 3 rfl) ?_
  refine lv_iconst (v := 2) (pc := 527) hx hb dL_law_527 rfl ?_
  refine lv_iadd (pc := 528) hx hb dL_law_528 ?_
  refine va_sld (A := fun q : Nat => s.heap.size ≤ q) (pc := 529) hx hb hX hbl hbA hS h2 dL_law_529 ?_
  refine gcVi (pc := 530) (w1 := wG E g0 bb u0 u1 rr t G' ++ wM E a M') (pre := wG E g0 bb u0 u1 rr t G') (post := []) (As := [.int (xs (nI i + 1).toNatClampNeg), .int (xs (nI i + 2).toNatClampNeg)]) (rest := [.int v]) (q0 := 0) ⟨hx, hb, hml, hown, hts⟩ k6 (cwV 2 hts gL_law_X6_lasts rfl rfl rfl qvX6_lasts ⟨Nat.le_of_ble_eq_true rfl, Nat.le_of_ble_eq_true rfl⟩) hK hP hD hS hA rfl rfl rfl rfl rfl hl.1 rfl (Nat.le_of_ble_eq_true rfl) dL_law_530 hf (fun H locs hP hD hS => ?_)
  exact lv_icmp_eq (tgt := 683) (pc := 533) hx hb dL_law_533 (by decide) (fun _ => kk G' M' H locs R' hP hD hS) (fun q => absurd rfl q)
set_option maxHeartbeats 4000000 in
set_option maxRecDepth 100000 in
theorem lc_under (C : lwC p s m c b L xs E) (hL : L ≤ 2048) (hi : i + 3 < L) (hB : ∀ x1 : Int32, gBi l E g0 bb u0 u1 rr t a G M n yX5_under wsX5_under rX5_under yX6_under wsX6_under rX6_under [.int x1]) (hf : cells ≤ room_1.cells ∧ slots ≤ room_1.slots) (hP : va_P E.1 vwCl (wG E g0 bb u0 u1 rr t G ++ wM E a M) H) (hD : va_D (fun q : Nat => s.heap.size ≤ q) (wG E g0 bb u0 u1 rr t G ++ wM E a M)) (hS : va_S (fun q : Nat => s.heap.size ≤ q) s.heap H locs) (hl : lv_has ls 4 [(0, .ref b), (1, .ref g0), (2, .ref (a 0)), (3, .int (nI i))])
    (kk : ∀ (G' : GS) (M' : Mdl) (H : Heap) (locs : List Loc), Rel G' M' (n + 40) → va_P E.1 vwCl (wG E g0 bb u0 u1 rr t G' ++ wM E a M') H → va_D (fun q : Nat => s.heap.size ≤ q) (wG E g0 bb u0 u1 rr t G' ++ wM E a M') → va_S (fun q : Nat => s.heap.size ≤ q) s.heap H locs → W p l e room_1 s m #[Value.ref b] below meth c H locs cells slots Q (F0 m 683 ls [])) : W p l e room_1 s m #[Value.ref b] below meth c H locs cells slots Q (F0 m 538 ls []) := by
  obtain ⟨hx, hb, hml, hown, hts, hX, hbl, hK⟩ := C
  have hA : ∀ q : Nat, s.heap.size ≤ q → (fun q : Nat => s.heap.size ≤ q) q := fun _ h => h
  have hbA : ¬ (fun q : Nat => s.heap.size ≤ q) b := Nat.not_le.mpr hbl
  have h1 : vp_in (nI i + 1) L := ix_L (d := 1) hi (by decide) hL
  obtain ⟨v, G', M', k5, k6, R'⟩ := hB (xs (nI i + 1).toNatClampNeg)
  refine lv_aload_n (pc := 538) hx hb dL_law_538 rfl (lv_at hl 1 rfl) ?_
  refine lv_aload_n (pc := 539) hx hb dL_law_539 rfl (lv_at hl 0 rfl) ?_
  refine lv_iload_n (pc := 540) hx hb dL_law_540 rfl (lv_at hl 3 rfl) ?_
  refine lv_iconst (v := 1) (pc := 541) hx hb dL_law_541 rfl ?_
  refine lv_iadd (pc := 542) hx hb dL_law_542 ?_
  refine va_sld (A := fun q : Nat => s.heap.size ≤ q) (pc := 543) hx hb hX hbl hbA hS h1 dL_law_543 ?_
  refine gcVi (pc := 544) (w1 := wG E g0 bb u0 u1 rr t G' ++ wM E a M) (pre := []) (post := wM E a M) (As := [.int (xs (nI i + 1).toNatClampNeg)]) (rest := []) (q0 := 0) ⟨hx, hb, hml, hown, hts⟩ k5 (cwV 1 hts gL_law_X5_under rfl rfl rfl qvX5_under ⟨Nat.le_of_ble_eq_true rfl, Nat.le_of_ble_eq_true rfl⟩) hK hP hD hS hA rfl rfl rfl rfl rfl hl.1 rfl (Nat.le_of_ble_eq_true rfl) dL_law_544 hf (fun H locs hP hD hS => ?_)
  refine lv_aload_n (pc := 547) hx hb dL_law_547 rfl (lv_at hl 2 rfl) ?_
  refine lv_aload_n (pc := 548) hx hb dL_law_548 rfl (lv_at hl 0 rfl) ?_
  refine lv_iload_n (pc := 549) hx hb dL_law_549 rfl (lv_at hl 3 rfl) ?_
  refine lv_iconst (v := 1) (pc := 550) hx hb dL_law_550 rfl ?_
  refine lv_iadd (pc := 551) hx hb dL_law_551 ?_
  refine va_sld (A := fun q : Nat => s.heap.size ≤ q) (pc := 552) hx hb hX hbl hbA hS h1 dL_law_552 ?_
  refine gcVi (pc := 553) (w1 := wG E g0 bb u0 u1 rr t G' ++ wM E a M') (pre := wG E g0 bb u0 u1 rr t G') (post := []) (As := [.int (xs (nI i + 1).toNatClampNeg)]) (rest := [.int v]) (q0 := 0) ⟨hx, hb, hml, hown, hts⟩ k6 (cwV 1 hts gL_law_X6_under rfl rfl rfl qvX6_under ⟨Nat.le_of_ble_eq_true rfl, Nat.le_of_ble_eq_true rfl⟩) hK hP hD hS hA rfl rfl rfl rfl rfl hl.1 rfl (Nat.le_of_ble_eq_true rfl) dL_law_553 hf (fun H locs hP hD hS => ?_)
  exact lv_icmp_eq (tgt := 683) (pc := 556) hx hb dL_law_556 (by decide) (fun _ => kk G' M' H locs R' hP hD hS) (fun q => absurd rfl q)
set_option maxHeartbeats 4000000 in
set_option maxRecDepth 100000 in
theorem lc_setting (C : lwC p s m c b L xs E) (hL : L ≤ 2048) (hi : i + 3 < L) (hB : ∀ x1 : Int32, gBi l E g0 bb u0 u1 rr t a G M n yX5_setting wsX5_setting rX5_setting yX6_setting wsX6_setting rX6_setting [.int x1]) (hf : cells ≤ room_1.cells ∧ slots ≤ room_1.slots) (hP : va_P E.1 vwCl (wG E g0 bb u0 u1 rr t G ++ wM E a M) H) (hD : va_D (fun q : Nat => s.heap.size ≤ q) (wG E g0 bb u0 u1 rr t G ++ wM E a M)) (hS : va_S (fun q : Nat => s.heap.size ≤ q) s.heap H locs) (hl : lv_has ls 4 [(0, .ref b), (1, .ref g0), (2, .ref (a 0)), (3, .int (nI i))])
    (kk : ∀ (G' : GS) (M' : Mdl) (H : Heap) (locs : List Loc), Rel G' M' (n + 40) → va_P E.1 vwCl (wG E g0 bb u0 u1 rr t G' ++ wM E a M') H → va_D (fun q : Nat => s.heap.size ≤ q) (wG E g0 bb u0 u1 rr t G' ++ wM E a M') → va_S (fun q : Nat => s.heap.size ≤ q) s.heap H locs → W p l e room_1 s m #[Value.ref b] below meth c H locs cells slots Q (F0 m 683 ls [])) : W p l e room_1 s m #[Value.ref b] below meth c H locs cells slots Q (F0 m 561 ls []) := by
  obtain ⟨hx, hb, hml, hown, hts, hX, hbl, hK⟩ := C
  have hA : ∀ q : Nat, s.heap.size ≤ q → (fun q : Nat => s.heap.size ≤ q) q := fun _ h => h
  have hbA : ¬ (fun q : Nat => s.heap.size ≤ q) b := Nat.not_le.mpr hbl
  have h1 : vp_in (nI i + 1) L := ix_L (d := 1) hi (by decide) hL
  obtain ⟨v, G', M', k5, k6, R'⟩ := hB (xs (nI i + 1).toNatClampNeg)
  refine lv_aload_n (pc := 561) hx hb dL_law_561 rfl (lv_at hl 1 rfl) ?_
  refine lv_aload_n (pc := 562) hx hb dL_law_562 rfl (lv_at hl 0 rfl) ?_
  refine lv_iload_n (pc := 563) hx hb dL_law_563 rfl (lv_at hl 3 rfl) ?_
  refine lv_iconst (v := 1) (pc := 564) hx hb dL_law_564 rfl ?_
  refine lv_iadd (pc := 565) hx hb dL_law_565 ?_
  refine va_sld (A := fun q : Nat => s.heap.size ≤ q) (pc := 566) hx hb hX hbl hbA hS h1 dL_law_566 ?_
  refine gcVi (pc := 567) (w1 := wG E g0 bb u0 u1 rr t G' ++ wM E a M) (pre := []) (post := wM E a M) (As := [.int (xs (nI i + 1).toNatClampNeg)]) (rest := []) (q0 := 0) ⟨hx, hb, hml, hown, hts⟩ k5 (cwV 1 hts gL_law_X5_setting rfl rfl rfl qvX5_setting ⟨Nat.le_of_ble_eq_true rfl, Nat.le_of_ble_eq_true rfl⟩) hK hP hD hS hA rfl rfl rfl rfl rfl hl.1 rfl (Nat.le_of_ble_eq_true rfl) dL_law_567 hf (fun H locs hP hD hS => ?_)
  refine lv_aload_n (pc := 570) hx hb dL_law_570 rfl (lv_at hl 2 rfl) ?_
  refine lv_aload_n (pc := 571) hx hb dL_law_571 rfl (lv_at hl 0 rfl) ?_
  refine lv_iload_n (pc := 572) hx hb dL_law_572 rfl (lv_at hl 3 rfl) ?_
  refine lv_iconst (v := 1) (pc := 573) hx hb dL_law_573 rfl ?_
  refine lv_iadd (pc := 574) hx hb dL_law_574 ?_
  refine va_sld (A := fun q : Nat => s.heap.size ≤ q) (pc := 575) hx hb hX hbl hbA hS h1 dL_law_575 ?_
  refine gcVi (pc := 576) (w1 := wG E g0 bb u0 u1 rr t G' ++ wM E a M') (pre := wG E g0 bb u0 u1 rr t G') (post := []) (As := [.int (xs (nI i + 1).toNatClampNeg)]) (rest := [.int v]) (q0 := 0) ⟨hx, hb, hml, hown, hts⟩ k6 (cwV 1 hts gL_law_X6_setting rfl rfl rfl qvX6_setting ⟨Nat.le_of_ble_eq_true rfl, Nat.le_of_ble_eq_true rfl⟩) hK hP hD hS hA rfl rfl rfl rfl rfl hl.1 rfl (Nat.le_of_ble_eq_true rfl) dL_law_576 hf (fun H locs hP hD hS => ?_)
  exact lv_icmp_eq (tgt := 683) (pc := 579) hx hb dL_law_579 (by decide) (fun _ => kk G' M' H locs R' hP hD hS) (fun q => absurd rfl q)
set_option maxHeartbeats 4000000 in
set_option maxRecDepth 100000 in
theorem lc_type (C : lwC p s m c b L xs E) (hL : L ≤ 2048) (hi : i + 3 < L) (hB : ∀ x1 : Int32, gBi l E g0 bb u0 u1 rr t a G M n yX5_type wsX5_type rX5_type yX6_type wsX6_type rX6_type [.int x1]) (hf : cells ≤ room_1.cells ∧ slots ≤ room_1.slots) (hP : va_P E.1 vwCl (wG E g0 bb u0 u1 rr t G ++ wM E a M) H) (hD : va_D (fun q : Nat => s.heap.size ≤ q) (wG E g0 bb u0 u1 rr t G ++ wM E a M)) (hS : va_S (fun q : Nat => s.heap.size ≤ q) s.heap H locs) (hl : lv_has ls 4 [(0, .ref b), (1, .ref g0), (2, .ref (a 0)), (3, .int (nI i))])
    (kk : ∀ (G' : GS) (M' : Mdl) (H : Heap) (locs : List Loc), Rel G' M' (n + 40) → va_P E.1 vwCl (wG E g0 bb u0 u1 rr t G' ++ wM E a M') H → va_D (fun q : Nat => s.heap.size ≤ q) (wG E g0 bb u0 u1 rr t G' ++ wM E a M') → va_S (fun q : Nat => s.heap.size ≤ q) s.heap H locs → W p l e room_1 s m #[Value.ref b] below meth c H locs cells slots Q (F0 m 683 ls [])) : W p l e room_1 s m #[Value.ref b] below meth c H locs cells slots Q (F0 m 584 ls []) := by
  obtain ⟨hx, hb, hml, hown, hts, hX, hbl, hK⟩ := C
  have hA : ∀ q : Nat, s.heap.size ≤ q → (fun q : Nat => s.heap.size ≤ q) q := fun _ h => h
  have hbA : ¬ (fun q : Nat => s.heap.size ≤ q) b := Nat.not_le.mpr hbl
  have h1 : vp_in (nI i + 1) L := ix_L (d := 1) hi (by decide) hL
  obtain ⟨v, G', M', k5, k6, R'⟩ := hB (xs (nI i + 1).toNatClampNeg)
  refine lv_aload_n (pc := 584) hx hb dL_law_584 rfl (lv_at hl 1 rfl) ?_
  refine lv_aload_n (pc := 585) hx hb dL_law_585 rfl (lv_at hl 0 rfl) ?_
  refine lv_iload_n (pc := 586) hx hb dL_law_586 rfl (lv_at hl 3 rfl) ?_
  refine lv_iconst (v := 1) (pc := 587) hx hb dL_law_587 rfl ?_
  refine lv_iadd (pc := 588) hx hb dL_law_588 ?_
  refine va_sld (A := fun q : Nat => s.heap.size ≤ q) (pc := 589) hx hb hX hbl hbA hS h1 dL_law_589 ?_
  refine gcVi (pc := 590) (w1 := wG E g0 bb u0 u1 rr t G' ++ wM E a M) (pre := []) (post := wM E a M) (As := [.int (xs (nI i + 1).toNatClampNeg)]) (rest := []) (q0 := 0) ⟨hx, hb, hml, hown, hts⟩ k5 (cwV 1 hts gL_law_X5_type rfl rfl rfl qvX5_type ⟨Nat.le_of_ble_eq_true rfl, Nat.le_of_ble_eq_true rfl⟩) hK hP hD hS hA rfl rfl rfl rfl rfl hl.1 rfl (Nat.le_of_ble_eq_true rfl) dL_law_590 hf (fun H locs hP hD hS => ?_)
  refine lv_aload_n (pc := 593) hx hb dL_law_593 rfl (lv_at hl 2 rfl) ?_
  refine lv_aload_n (pc := 594) hx hb dL_law_594 rfl (lv_at hl 0 rfl) ?_
  refine lv_iload_n (pc := 595) hx hb dL_law_595 rfl (lv_at hl 3 rfl) ?_
  refine lv_iconst (v := 1) (pc := 596) hx hb dL_law_596 rfl ?_
  refine lv_iadd (pc := 597) hx hb dL_law_597 ?_
  refine va_sld (A := fun q : Nat => s.heap.size ≤ q) (pc := 598) hx hb hX hbl hbA hS h1 dL_law_598 ?_
  refine gcVi (pc := 599) (w1 := wG E g0 bb u0 u1 rr t G' ++ wM E a M') (pre := wG E g0 bb u0 u1 rr t G') (post := []) (As := [.int (xs (nI i + 1).toNatClampNeg)]) (rest := [.int v]) (q0 := 0) ⟨hx, hb, hml, hown, hts⟩ k6 (cwV 1 hts gL_law_X6_type rfl rfl rfl qvX6_type ⟨Nat.le_of_ble_eq_true rfl, Nat.le_of_ble_eq_true rfl⟩) hK hP hD hS hA rfl rfl rfl rfl rfl hl.1 rfl (Nat.le_of_ble_eq_true rfl) dL_law_599 hf (fun H locs hP hD hS => ?_)
  exact lv_icmp_eq (tgt := 683) (pc := 602) hx hb dL_law_602 (by decide) (fun _ => kk G' M' H locs R' hP hD hS) (fun q => absurd rfl q)
set_option maxHeartbeats 4000000 in
set_option maxRecDepth 100000 in
theorem lc_clear (C : lwC p s m c b L xs E) (hL : L ≤ 2048) (hi : i + 3 < L) (hB : gBi l E g0 bb u0 u1 rr t a G M n yX5_clear wsX5_clear rX5_clear yX6_clear wsX6_clear rX6_clear []) (hf : cells ≤ room_1.cells ∧ slots ≤ room_1.slots) (hP : va_P E.1 vwCl (wG E g0 bb u0 u1 rr t G ++ wM E a M) H) (hD : va_D (fun q : Nat => s.heap.size ≤ q) (wG E g0 bb u0 u1 rr t G ++ wM E a M)) (hS : va_S (fun q : Nat => s.heap.size ≤ q) s.heap H locs) (hl : lv_has ls 4 [(0, .ref b), (1, .ref g0), (2, .ref (a 0)), (3, .int (nI i))])
    (kk : ∀ (G' : GS) (M' : Mdl) (H : Heap) (locs : List Loc), Rel G' M' (n + 40) → va_P E.1 vwCl (wG E g0 bb u0 u1 rr t G' ++ wM E a M') H → va_D (fun q : Nat => s.heap.size ≤ q) (wG E g0 bb u0 u1 rr t G' ++ wM E a M') → va_S (fun q : Nat => s.heap.size ≤ q) s.heap H locs → W p l e room_1 s m #[Value.ref b] below meth c H locs cells slots Q (F0 m 683 ls [])) : W p l e room_1 s m #[Value.ref b] below meth c H locs cells slots Q (F0 m 607 ls []) := by
  obtain ⟨hx, hb, hml, hown, hts, hX, hbl, hK⟩ := C
  have hA : ∀ q : Nat, s.heap.size ≤ q → (fun q : Nat => s.heap.size ≤ q) q := fun _ h => h
  have hbA : ¬ (fun q : Nat => s.heap.size ≤ q) b := Nat.not_le.mpr hbl
  obtain ⟨v, G', M', k5, k6, R'⟩ := hB
  refine lv_aload_n (pc := 607) hx hb dL_law_607 rfl (lv_at hl 1 rfl) ?_
  refine gcVi (pc := 608) (w1 := wG E g0 bb u0 u1 rr t G' ++ wM E a M) (pre := []) (post := wM E a M) (As := []) (rest := []) (q0 := 0) ⟨hx, hb, hml, hown, hts⟩ k5 (cwV 0 hts gL_law_X5_clear rfl rfl rfl qvX5_clear ⟨Nat.le_of_ble_eq_true rfl, Nat.le_of_ble_eq_true rfl⟩) hK hP hD hS hA rfl rfl rfl rfl rfl hl.1 rfl (Nat.le_of_ble_eq_true rfl) dL_law_608 hf (fun H locs hP hD hS => ?_)
  refine lv_aload_n (pc := 611) hx hb dL_law_611 rfl (lv_at hl 2 rfl) ?_
  refine gcVi (pc := 612) (w1 := wG E g0 bb u0 u1 rr t G' ++ wM E a M') (pre := wG E g0 bb u0 u1 rr t G') (post := []) (As := []) (rest := [.int v]) (q0 := 0) ⟨hx, hb, hml, hown, hts⟩ k6 (cwV 0 hts gL_law_X6_clear rfl rfl rfl qvX6_clear ⟨Nat.le_of_ble_eq_true rfl, Nat.le_of_ble_eq_true rfl⟩) hK hP hD hS hA rfl rfl rfl rfl rfl hl.1 rfl (Nat.le_of_ble_eq_true rfl) dL_law_612 hf (fun H locs hP hD hS => ?_)
  exact lv_icmp_eq (tgt := 683) (pc := 615) hx hb dL_law_615 (by decide) (fun _ => kk G' M' H locs R' hP hD hS) (fun q => absurd rfl q)
set_option maxHeartbeats 4000000 in
set_option maxRecDepth 100000 in
theorem lc_does (C : lwC p s m c b L xs E) (hL : L ≤ 2048) (hi : i + 3 < L) (hB : gBi l E g0 bb u0 u1 rr t a G M n yX5_does wsX5_does rX5_does yX6_does wsX6_does rX6_does []) (hf : cells ≤ room_1.cells ∧ slots ≤ room_1.slots) (hP : va_P E.1 vwCl (wG E g0 bb u0 u1 rr t G ++ wM E a M) H) (hD : va_D (fun q : Nat => s.heap.size ≤ q) (wG E g0 bb u0 u1 rr t G ++ wM E a M)) (hS : va_S (fun q : Nat => s.heap.size ≤ q) s.heap H locs) (hl : lv_has ls 4 [(0, .ref b), (1, .ref g0), (2, .ref (a 0)), (3, .int (nI i))])
    (kk : ∀ (G' : GS) (M' : Mdl) (H : Heap) (locs : List Loc), Rel G' M' (n + 40) → va_P E.1 vwCl (wG E g0 bb u0 u1 rr t G' ++ wM E a M') H → va_D (fun q : Nat => s.heap.size ≤ q) (wG E g0 bb u0 u1 rr t G' ++ wM E a M') → va_S (fun q : Nat => s.heap.size ≤ q) s.heap H locs → W p l e room_1 s m #[Value.ref b] below meth c H locs cells slots Q (F0 m 683 ls [])) : W p l e room_1 s m #[Value.ref b] below meth c H locs cells slots Q (F0 m 620 ls []) := by
  obtain ⟨hx, hb, hml, hown, hts, hX, hbl, hK⟩ := C
  have hA : ∀ q : Nat, s.heap.size ≤ q → (fun q : Nat => s.heap.size ≤ q) q := fun _ h => h
  have hbA : ¬ (fun q : Nat => s.heap.size ≤ q) b := Nat.not_le.mpr hbl
  obtain ⟨v, G', M', k5, k6, R'⟩ := hB
  refine lv_aload_n (pc := 620) hx hb dL_law_620 rfl (lv_at hl 1 rfl) ?_
  refine gcVi (pc := 621) (w1 := wG E g0 bb u0 u1 rr t G' ++ wM E a M) (pre := []) (post := wM E a M) (As := []) (rest := []) (q0 := 0) ⟨hx, hb, hml, hown, hts⟩ k5 (cwV 0 hts gL_law_X5_does rfl rfl rfl qvX5_does ⟨Nat.le_of_ble_eq_true rfl, Nat.le_of_ble_eq_true rfl⟩) hK hP hD hS hA rfl rfl rfl rfl rfl hl.1 rfl (Nat.le_of_ble_eq_true rfl) dL_law_621 hf (fun H locs hP hD hS => ?_)
  refine lv_aload_n (pc := 624) hx hb dL_law_624 rfl (lv_at hl 2 rfl) ?_
  refine gcVi (pc := 625) (w1 := wG E g0 bb u0 u1 rr t G' ++ wM E a M') (pre := wG E g0 bb u0 u1 rr t G') (post := []) (As := []) (rest := [.int v]) (q0 := 0) ⟨hx, hb, hml, hown, hts⟩ k6 (cwV 0 hts gL_law_X6_does rfl rfl rfl qvX6_does ⟨Nat.le_of_ble_eq_true rfl, Nat.le_of_ble_eq_true rfl⟩) hK hP hD hS hA rfl rfl rfl rfl rfl hl.1 rfl (Nat.le_of_ble_eq_true rfl) dL_law_625 hf (fun H locs hP hD hS => ?_)
  exact lv_icmp_eq (tgt := 683) (pc := 628) hx hb dL_law_628 (by decide) (fun _ => kk G' M' H locs R' hP hD hS) (fun q => absurd rfl q)
set_option maxHeartbeats 4000000 in
set_option maxRecDepth 100000 in
theorem lc_back (C : lwC p s m c b L xs E) (hL : L ≤ 2048) (hi : i + 3 < L) (hB : gBi l E g0 bb u0 u1 rr t a G M n yX5_back wsX5_back rX5_back yX6_back wsX6_back rX6_back []) (hf : cells ≤ room_1.cells ∧ slots ≤ room_1.slots) (hP : va_P E.1 vwCl (wG E g0 bb u0 u1 rr t G ++ wM E a M) H) (hD : va_D (fun q : Nat => s.heap.size ≤ q) (wG E g0 bb u0 u1 rr t G ++ wM E a M)) (hS : va_S (fun q : Nat => s.heap.size ≤ q) s.heap H locs) (hl : lv_has ls 4 [(0, .ref b), (1, .ref g0), (2, .ref (a 0)), (3, .int (nI i))])
    (kk : ∀ (G' : GS) (M' : Mdl) (H : Heap) (locs : List Loc), Rel G' M' (n + 40) → va_P E.1 vwCl (wG E g0 bb u0 u1 rr t G' ++ wM E a M') H → va_D (fun q : Nat => s.heap.size ≤ q) (wG E g0 bb u0 u1 rr t G' ++ wM E a M') → va_S (fun q : Nat => s.heap.size ≤ q) s.heap H locs → W p l e room_1 s m #[Value.ref b] below meth c H locs cells slots Q (F0 m 683 ls [])) : W p l e room_1 s m #[Value.ref b] below meth c H locs cells slots Q (F0 m 633 ls []) := by
  obtain ⟨hx, hb, hml, hown, hts, hX, hbl, hK⟩ := C
  have hA : ∀ q : Nat, s.heap.size ≤ q → (fun q : Nat => s.heap.size ≤ q) q := fun _ h => h
  have hbA : ¬ (fun q : Nat => s.heap.size ≤ q) b := Nat.not_le.mpr hbl
  obtain ⟨v, G', M', k5, k6, R'⟩ := hB
  refine lv_aload_n (pc := 633) hx hb dL_law_633 rfl (lv_at hl 1 rfl) ?_
  refine gcVi (pc := 634) (w1 := wG E g0 bb u0 u1 rr t G' ++ wM E a M) (pre := []) (post := wM E a M) (As := []) (rest := []) (q0 := 0) ⟨hx, hb, hml, hown, hts⟩ k5 (cwV 0 hts gL_law_X5_back rfl rfl rfl qvX5_back ⟨Nat.le_of_ble_eq_true rfl, Nat.le_of_ble_eq_true rfl⟩) hK hP hD hS hA rfl rfl rfl rfl rfl hl.1 rfl (Nat.le_of_ble_eq_true rfl) dL_law_634 hf (fun H locs hP hD hS => ?_)
  refine lv_aload_n (pc := 637) hx hb dL_law_637 rfl (lv_at hl 2 rfl) ?_
  refine gcVi (pc := 638) (w1 := wG E g0 bb u0 u1 rr t G' ++ wM E a M') (pre := wG E g0 bb u0 u1 rr t G') (post := []) (As := []) (rest := [.int v]) (q0 := 0) ⟨hx, hb, hml, hown, hts⟩ k6 (cwV 0 hts gL_law_X6_back rfl rfl rfl qvX6_back ⟨Nat.le_of_ble_eq_true rfl, Nat.le_of_ble_eq_true rfl⟩) hK hP hD hS hA rfl rfl rfl rfl rfl hl.1 rfl (Nat.le_of_ble_eq_true rfl) dL_law_638 hf (fun H locs hP hD hS => ?_)
  exact lv_icmp_eq (tgt := 683) (pc := 641) hx hb dL_law_641 (by decide) (fun _ => kk G' M' H locs R' hP hD hS) (fun q => absurd rfl q)
set_option maxHeartbeats 4000000 in
set_option maxRecDepth 100000 in
theorem lc_refused (C : lwC p s m c b L xs E) (hL : L ≤ 2048) (hi : i + 3 < L) (hB : ∀ x1 : Int32, gBi l E g0 bb u0 u1 rr t a G M n yX5_refused wsX5_refused rX5_refused yX6_refused wsX6_refused rX6_refused [.int x1]) (hf : cells ≤ room_1.cells ∧ slots ≤ room_1.slots) (hP : va_P E.1 vwCl (wG E g0 bb u0 u1 rr t G ++ wM E a M) H) (hD : va_D (fun q : Nat => s.heap.size ≤ q) (wG E g0 bb u0 u1 rr t G ++ wM E a M)) (hS : va_S (fun q : Nat => s.heap.size ≤ q) s.heap H locs) (hl : lv_has ls 4 [(0, .ref b), (1, .ref g0), (2, .ref (a 0)), (3, .int (nI i))])
    (kk : ∀ (G' : GS) (M' : Mdl) (H : Heap) (locs : List Loc), Rel G' M' (n + 40) → va_P E.1 vwCl (wG E g0 bb u0 u1 rr t G' ++ wM E a M') H → va_D (fun q : Nat => s.heap.size ≤ q) (wG E g0 bb u0 u1 rr t G' ++ wM E a M') → va_S (fun q : Nat => s.heap.size ≤ q) s.heap H locs → W p l e room_1 s m #[Value.ref b] below meth c H locs cells slots Q (F0 m 683 ls [])) : W p l e room_1 s m #[Value.ref b] below meth c H locs cells slots Q (F0 m 646 ls []) := by
  obtain ⟨hx, hb, hml, hown, hts, hX, hbl, hK⟩ := C
  have hA : ∀ q : Nat, s.heap.size ≤ q → (fun q : Nat => s.heap.size ≤ q) q := fun _ h => h
  have hbA : ¬ (fun q : Nat => s.heap.size ≤ q) b := Nat.not_le.mpr hbl
  have h1 : vp_in (nI i + 1) L := ix_L (d := 1) hi (by decide) hL
  obtain ⟨v, G', M', k5, k6, R'⟩ := hB (xs (nI i + 1).toNatClampNeg)
  refine lv_aload_n (pc := 646) hx hb dL_law_646 rfl (lv_at hl 1 rfl) ?_
  refine lv_aload_n (pc := 647) hx hb dL_law_647 rfl (lv_at hl 0 rfl) ?_
  refine lv_iload_n (pc := 648) hx hb dL_law_648 rfl (lv_at hl 3 rfl) ?_
  refine lv_iconst (v := 1) (pc := 649) hx hb dL_law_649 rfl ?_
  refine lv_iadd (pc := 650) hx hb dL_law_650 ?_
  refine va_sld (A := fun q : Nat => s.heap.size ≤ q) (pc := 651) hx hb hX hbl hbA hS h1 dL_law_651 ?_
  refine gcVi (pc := 652) (w1 := wG E g0 bb u0 u1 rr t G' ++ wM E a M) (pre := []) (post := wM E a M) (As := [.int (xs (nI i + 1).toNatClampNeg)]) (rest := []) (q0 := 0) ⟨hx, hb, hml, hown, hts⟩ k5 (cwV 1 hts gL_law_X5_refused rfl rfl rfl qvX5_refused ⟨Nat.le_of_ble_eq_true rfl, Nat.le_of_ble_eq_true rfl⟩) hK hP hD hS hA rfl rfl rfl rfl rfl hl.1 rfl (Nat.le_of_ble_eq_true rfl) dL_law_652 hf (fun H locs hP hD hS => ?_)
  refine lv_aload_n (pc := 655) hx hb dL_law_655 rfl (lv_at hl 2 rfl) ?_
  refine lv_aload_n (pc := 656) hx hb dL_law_656 rfl (lv_at hl 0 rfl) ?_
  refine lv_iload_n (pc := 657) hx hb dL_law_657 rfl (lv_at hl 3 rfl) ?_
  refine lv_iconst (v := 1) (pc := 658) hx hb dL_law_658 rfl ?_
  refine lv_iadd (pc := 659) hx hb dL_law_659 ?_
  refine va_sld (A := fun q : Nat => s.heap.size ≤ q) (pc := 660) hx hb hX hbl hbA hS h1 dL_law_660 ?_
  refine gcVi (pc := 661) (w1 := wG E g0 bb u0 u1 rr t G' ++ wM E a M') (pre := wG E g0 bb u0 u1 rr t G') (post := []) (As := [.int (xs (nI i + 1).toNatClampNeg)]) (rest := [.int v]) (q0 := 0) ⟨hx, hb, hml, hown, hts⟩ k6 (cwV 1 hts gL_law_X6_refused rfl rfl rfl qvX6_refused ⟨Nat.le_of_ble_eq_true rfl, Nat.le_of_ble_eq_true rfl⟩) hK hP hD hS hA rfl rfl rfl rfl rfl hl.1 rfl (Nat.le_of_ble_eq_true rfl) dL_law_661 hf (fun H locs hP hD hS => ?_)
  exact lv_icmp_eq (tgt := 683) (pc := 664) hx hb dL_law_664 (by decide) (fun _ => kk G' M' H locs R' hP hD hS) (fun q => absurd rfl q)
set_option maxHeartbeats 4000000 in
set_option maxRecDepth 100000 in
theorem lc_digest (C : lwC p s m c b L xs E) (hL : L ≤ 2048) (hi : i + 3 < L) (hB : gBl l E g0 bb u0 u1 rr t a G M n yX5_digest wsX5_digest rX5_digest yX6_digest wsX6_digest rX6_digest []) (hf : cells ≤ room_1.cells ∧ slots ≤ room_1.slots) (hP : va_P E.1 vwCl (wG E g0 bb u0 u1 rr t G ++ wM E a M) H) (hD : va_D (fun q : Nat => s.heap.size ≤ q) (wG E g0 bb u0 u1 rr t G ++ wM E a M)) (hS : va_S (fun q : Nat => s.heap.size ≤ q) s.heap H locs) (hl : lv_has ls 4 [(0, .ref b), (1, .ref g0), (2, .ref (a 0)), (3, .int (nI i))])
    (kk : ∀ (G' : GS) (M' : Mdl) (H : Heap) (locs : List Loc), Rel G' M' (n + 40) → va_P E.1 vwCl (wG E g0 bb u0 u1 rr t G' ++ wM E a M') H → va_D (fun q : Nat => s.heap.size ≤ q) (wG E g0 bb u0 u1 rr t G' ++ wM E a M') → va_S (fun q : Nat => s.heap.size ≤ q) s.heap H locs → W p l e room_1 s m #[Value.ref b] below meth c H locs cells slots Q (F0 m 683 ls [])) : W p l e room_1 s m #[Value.ref b] below meth c H locs cells slots Q (F0 m 669 ls []) := by
  obtain ⟨hx, hb, hml, hown, hts, hX, hbl, hK⟩ := C
  have hA : ∀ q : Nat, s.heap.size ≤ q → (fun q : Nat => s.heap.size ≤ q) q := fun _ h => h
  have hbA : ¬ (fun q : Nat => s.heap.size ≤ q) b := Nat.not_le.mpr hbl
  obtain ⟨v, G', M', k5, k6, R'⟩ := hB
  refine lv_aload_n (pc := 669) hx hb dL_law_669 rfl (lv_at hl 1 rfl) ?_
  refine gcVl (pc := 670) (w1 := wG E g0 bb u0 u1 rr t G' ++ wM E a M) (pre := []) (post := wM E a M) (As := []) (rest := []) (q0 := 0) ⟨hx, hb, hml, hown, hts⟩ k5 (cwV 0 hts gL_law_X5_digest rfl rfl rfl qvX5_digest ⟨Nat.le_of_ble_eq_true rfl, Nat.le_of_ble_eq_true rfl⟩) hK hP hD hS hA rfl rfl rfl rfl rfl hl.1 rfl (Nat.le_of_ble_eq_true rfl) dL_law_670 hf (fun H locs hP hD hS => ?_)
  refine lv_aload_n (pc := 673) hx hb dL_law_673 rfl (lv_at hl 2 rfl) ?_
  refine gcVl (pc := 674) (w1 := wG E g0 bb u0 u1 rr t G' ++ wM E a M') (pre := wG E g0 bb u0 u1 rr t G') (post := []) (As := []) (rest := [.long v]) (q0 := 0) ⟨hx, hb, hml, hown, hts⟩ k6 (cwV 0 hts gL_law_X6_digest rfl rfl rfl qvX6_digest ⟨Nat.le_of_ble_eq_true rfl, Nat.le_of_ble_eq_true rfl⟩) hK hP hD hS hA rfl rfl rfl rfl rfl hl.1 rfl (Nat.le_of_ble_eq_true rfl) dL_law_674 hf (fun H locs hP hD hS => ?_)
  exact gl_eq (tgt := 683) (pc := 677) hx hb dL_law_677 dL_law_678 (by decide) (fun _ => kk G' M' H locs R' hP hD hS) (fun q => absurd rfl q)
end CASES
