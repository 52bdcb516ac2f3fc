/-! FACE 2: getters, does, digest -/
theorem lpH_c {f g : Nat → Int64} {h : Int64} : ∀ n : Nat, (∀ i, i < n → f i = g i) → lpH f h n = lpH g h n
  | 0, _ => by rw [lpH_0, lpH_0]
  | n + 1, e => by rw [lpH_s, lpH_s, lpH_c n (fun i hi => e i (by omega)), e n (by omega)]
theorem lpH2_c {f g f' g' : Nat → Int64} {h : Int64} : ∀ n : Nat, (∀ i, i < n → f i = f' i ∧ g i = g' i) → lpH2 f g h n = lpH2 f' g' h n
  | 0, _ => by rw [lpH2_0, lpH2_0]
  | n + 1, e => by rw [lpH2_s, lpH2_s, lpH2_c n (fun i hi => e i (by omega)), (e n (by omega)).1, (e n (by omega)).2]
theorem lpH2_a {f g : Nat → Int64} {h : Int64} (m : Nat) : ∀ n : Nat, lpH2 f g h (m + n) = lpH2 (fun i => f (m + i)) (fun i => g (m + i)) (lpH2 f g h m) n
  | 0 => by rw [lpH2_0]; rfl
  | n + 1 => by rw [show m + (n + 1) = (m + n) + 1 from rfl, lpH2_s, lpH2_s, lpH2_a m n]
section FACE
variable {l : Launch} {E : gEnv} {g0 : Nat} {b : Nat → Nat} {u0 u1 : Nat} {rr : Nat → Nat → Nat} {t : Nat → Nat} {a : Nat → Nat} {G : GS} {M : Mdl} {c : Nat}
theorem rel_o5 (R : Rel G M c) : 0 ≤ (G.2.1.1 4).toInt ∧ (G.2.1.1 4).toInt ≤ 9 := ⟨R.1.2.2.1.1, R.1.2.2.1.2.1⟩
theorem rel_o6 (R : Rel G M c) : 0 ≤ (M.2.2.1 11).toInt ∧ (M.2.2.1 11).toInt ≤ 9 := by
  rw [R.1.1.1.2.2.2.2.2.2.2.2.2.2.2.1]; exact rel_o5 R
theorem rel_m6 (R : Rel G M c) : 0 ≤ (fX6_middle M.2.2.1).toInt ∧ (fX6_middle M.2.2.1).toInt ≤ 1000 := by
  rw [mid_eq R.1.2 R.1.1]; exact mid_in R.1.2
theorem rel_b5 (R : Rel G M c) : (0 ≤ (G.2.2.2.2.2.1 0).toInt ∧ (G.2.2.2.2.2.1 0).toInt ≤ 120) ∧ (0 ≤ (M.1 1).toInt ∧ (M.1 1).toInt ≤ 120) := by
  obtain ⟨-, -, -, -, n, hn, n1, n2⟩ := R
  rw [n1, n2, nI_toInt (by omega)]; omega
theorem rel_z5 (R : Rel G M c) : 0 ≤ (G.2.2.2.1).toInt := by
  obtain ⟨-, -, ⟨-, z, hz, z1, -, -⟩, -⟩ := R
  rw [z1, nI_toInt (by omega)]; omega
theorem B_told (R : Rel G M c) (w : Int32) : gBi l E g0 b u0 u1 rr t a G M c yX5_told wsX5_told rX5_told yX6_told wsX6_told rX6_told [.int w] := gB_of (p := fX5_told G w) (q := fX6_told M w) (d := 0) (by decide) (kX5_told l E g0 b u0 u1 rr t G w) (kX6_told l E a M w) (told_q R w)
theorem B_volts (R : Rel G M c) (v : Int32) : gBi l E g0 b u0 u1 rr t a G M c yX5_volts wsX5_volts rX5_volts yX6_volts wsX6_volts rX6_volts [.int v] := gB_of (p := fX5_volts G v) (q := fX6_volts M v) (d := 0) (by decide) (kX5_volts l E g0 b u0 u1 rr t G v) (kX6_volts l E a M v) (volts_q R v)
theorem B_inverse (R : Rel G M c) (v w : Int32) : gBi l E g0 b u0 u1 rr t a G M c yX5_inverse wsX5_inverse rX5_inverse yX6_inverse wsX6_inverse rX6_inverse [.int v, .int w] := gB_of (p := fX5_inverse G v w) (q := fX6_inverse M v w) (d := 0) (by decide) (kX5_inverse l E g0 b u0 u1 rr t G v w) (kX6_inverse l E a M v w) (inverse_q R v w)
theorem B_band (R : Rel G M c) (s n w : Int32) : gBi l E g0 b u0 u1 rr t a G M c yX5_band wsX5_band rX5_band yX6_band wsX6_band rX6_band [.int s, .int n, .int w] := gB_of (p := fX5_band G s n w) (q := fX6_band M s n w) (d := 0) (by decide) (kX5_band l E g0 b u0 u1 rr t G s n w) (kX6_band l E a M s n w) (band_q R s n w)
theorem B_bands (R : Rel G M c) : gBi l E g0 b u0 u1 rr t a G M c yX5_bands wsX5_bands rX5_bands yX6_bands wsX6_bands rX6_bands [] := gB_of (p := (fX5_bands G, G)) (q := (fX6_bands M.2.2.1, M)) (d := 0) (by decide) (kX5_bands l E g0 b u0 u1 rr t G) (kX6_bands l E a M) ⟨used_eq R.1.2 R.1.1 22 (Nat.le_refl _), R⟩
theorem B_lasts (R : Rel G M c) (i w : Int32) : gBi l E g0 b u0 u1 rr t a G M c yX5_lasts wsX5_lasts rX5_lasts yX6_lasts wsX6_lasts rX6_lasts [.int i, .int w] := gB_of (p := fX5_lasts G i w) (q := fX6_lasts M i w) (d := 0) (by decide) (kX5_lasts l E g0 b u0 u1 rr t G i w (rel_o5 R)) (kX6_lasts l E a M i w (rel_o6 R)) (lasts_q R i w)
theorem B_under (R : Rel G M c) (i : Int32) : gBi l E g0 b u0 u1 rr t a G M c yX5_under wsX5_under rX5_under yX6_under wsX6_under rX6_under [.int i] := gB_of (p := fX5_under G i) (q := fX6_under M i) (d := 0) (by decide) (kX5_under l E g0 b u0 u1 rr t G i) (kX6_under l E a M i (rel_m6 R)) (under_q R i)
theorem B_setting (R : Rel G M c) (w : Int32) : gBi l E g0 b u0 u1 rr t a G M c yX5_setting wsX5_setting rX5_setting yX6_setting wsX6_setting rX6_setting [.int w] := gB_of (p := fX5_setting G w) (q := fX6_setting M w) (d := 0) (by decide) (kX5_setting l E g0 b u0 u1 rr t G w) (kX6_setting l E a M w) (setting_q R w)
theorem B_type (R : Rel G M c) (v : Int32) : gBi l E g0 b u0 u1 rr t a G M c yX5_type wsX5_type rX5_type yX6_type wsX6_type rX6_type [.int v] := gB_of (p := fX5_type G v) (q := fX6_type M v) (d := 0) (by decide) (kX5_type l E g0 b u0 u1 rr t G v (rel_b5 R).1) (kX6_type l E a M v (rel_b5 R).2) (type_q R v)
theorem B_clear (R : Rel G M c) : gBi l E g0 b u0 u1 rr t a G M c yX5_clear wsX5_clear rX5_clear yX6_clear wsX6_clear rX6_clear [] := gB_of (p := fX5_clear G) (q := fX6_clear M) (d := 0) (by decide) (kX5_clear l E g0 b u0 u1 rr t G) (kX6_clear l E a M) (clear_q R)
theorem B_back (R : Rel G M c) : gBi l E g0 b u0 u1 rr t a G M c yX5_back wsX5_back rX5_back yX6_back wsX6_back rX6_back [] := gB_of (p := fX5_back G) (q := fX6_back M) (d := 0) (by decide) (kX5_back l E g0 b u0 u1 rr t G (rel_j R) (rel_z5 R)) (kX6_back l E a M (rel_z R)) (back_q R)
theorem B_refused (R : Rel G M c) (w : Int32) : gBi l E g0 b u0 u1 rr t a G M c yX5_refused wsX5_refused rX5_refused yX6_refused wsX6_refused rX6_refused [.int w] := gB_of (p := fX5_refused G w) (q := fX6_refused M w) (d := 0) (by decide) (kX5_refused l E g0 b u0 u1 rr t G w) (kX6_refused l E a M w) (refused_q R w)
theorem B_does (R : Rel G M c) (hc : c + 40 ≤ 20480) : gBi l E g0 b u0 u1 rr t a G M c yX5_does wsX5_does rX5_does yX6_does wsX6_does rX6_does [] := by
  have R' := R
  obtain ⟨-, -, -, tx, n, hn, n1, n2⟩ := R'
  have f := read_eq (X := G.2.2.2.2.2) (M := M) hn tx
  refine gB_of (p := fX5_does G n) (q := fX6_does M n) (d := 40) (by decide) (kX5_does l E g0 b u0 u1 rr t G n hn n1 (rel_j R) f.2.2.1) (kX6_does l E a M n hn n2 (by rw [f.2.1]; exact f.2.2.1) (fun i N => i ≤ 40 ∧ ∃ N0 : GS, DI (fX4_read G.2.2.2.2.2 n).2.1 c i N0 N) ?_ ?_ ?_) (does_eq R hc hn)
  · rintro j N ⟨hj, N0, dm, d1, d2, d3⟩
    exact ⟨rel_m6 dm.1, by rw [f.2.1]; exact d2, rel_z dm.1⟩
  · intro h
    exact ⟨Nat.zero_le _, _, DI_0 R hn (by rw [← f.1]; exact h)⟩
  · rintro N i hi ⟨hj, N0, d⟩ hq
    rw [f.2.1] at hi
    have f3 := f.2.2.1
    exact ⟨by omega, _, (DI_s hc f.2.2.1 hi d).2.1⟩
theorem told_g (R : Rel G M c) {j : Nat} (hj : j < 12) : fX5_told G (nI j) = (fX6_toldOf M.2.2.1 (nI j), G) := by
  rw [tell_eq R.1.2 R.1.1 (show j ≤ 11 by omega)]
  exact if_neg (fun e => (wi (x := nI j) (a := 0) (b := 11)).mp e (by rw [nI_toInt (by omega)]; simp only [Int32.reduceToInt]; omega))
theorem set_g (R : Rel G M c) {j : Nat} (hj : j < 13) : fX5_setting G (nI j) = (fX1_tellSetting G.2.1 (nI j), G) ∧ M.2.2.1 (11 + j) = (fX1_tellSetting G.2.1 (nI j)).toInt64 := by
  have se := set_eq R.1.2 R.1.1 (show j ≤ 12 by omega)
  exact ⟨cnt_n (by omega), wid se.1⟩
theorem band_g (R : Rel G M c) {s k w : Nat} (hs : s < 2) (hk : k < 11) (hw : w < 2) : fX5_band G (nI s) (nI k) (nI w) = (fX6_bandOf M.2.2.1 (nI (11 * s + k)) (nI w), G) := by
  have be := band_eq R.1.2 R.1.1 (s := nI s) (t := nI k) (w := nI w) (by rw [nI_toInt (by omega)]; omega) (by rw [nI_toInt (by omega)]; omega) (by rw [nI_toInt (by omega)]; omega)
  rw [show (11 : Int32) = nI 11 from rfl, pk_mul, nI_add] at be
  rw [be.1]
  exact cnt_n be.2
theorem last_g (R : Rel G M c) {i w : Nat} (hi : i < 3) (hw : w < 2) : fX5_lasts G (nI (1 + i)) (nI w) = (fX6_lastsBy M.2.2.1 (nI (1 + i)) (nI w), G) := by
  have le := last_eq R.1.2 R.1.1 (i := nI (1 + i)) (w := nI w) (by rw [nI_toInt (by omega)]; omega) (by rw [nI_toInt (by omega)]; omega)
  rw [le.1]
  exact cnt_n le.2
theorem dig_eq (R : Rel G M c) : (fX6_digest M).1 = fX5_digest G := by
  unfold fX6_digest fX5_digest
  simp only []
  have z0 : (0 : Int32) = nI 0 := rfl
  have z1 : (1 : Int32) = nI 1 := rfl
  have h1 : lpH (fun i => (fX6_refusedOf M.2.2.2.2.2.1 M.1 (nI i)).toInt64) 1690 5 = lpH (fun i => ((fX5_refused G (nI i)).1).toInt64) 1690 5 := lpH_c 5 (fun i hi => by show _ = ((fX5_refused G (nI i)).1).toInt64; rw [rfo_eq R i (by omega)])
  have h2 : ∀ h, lpH (fun i => (fX6_toldOf M.2.2.1 (nI i)).toInt64) h 12 = lpH (fun i => ((fX5_told G (nI i)).1).toInt64) h 12 := fun h => lpH_c 12 (fun i hi => by show _ = ((fX5_told G (nI i)).1).toInt64; rw [told_g R hi])
  have h3 : ∀ h, lpH (fun i => M.2.2.1 (11 + i)) h 13 = lpH (fun i => ((fX5_setting G (nI i)).1).toInt64) h 13 := fun h => lpH_c 13 (fun i hi => by show _ = ((fX5_setting G (nI i)).1).toInt64; rw [(set_g R hi).1]; exact (set_g R hi).2)
  have h4 : fX6_bands M.2.2.1 = fX5_bands G := used_eq R.1.2 R.1.1 22 (Nat.le_refl _)
  have h5 : ∀ h, lpH2 (fun i => (fX6_bandOf M.2.2.1 (nI i) 0).toInt64) (fun i => (fX6_bandOf M.2.2.1 (nI i) 1).toInt64) h 22 = lpHS G h 2 := by
    intro h
    rw [show (22 : Nat) = 11 + 11 from rfl, lpH2_a, show (2 : Nat) = 0 + 1 + 1 from rfl, lpHS_s, lpHS_s, lpHS_0]
    have q0 : lpH2 (fun i => (fX6_bandOf M.2.2.1 (nI i) 0).toInt64) (fun i => (fX6_bandOf M.2.2.1 (nI i) 1).toInt64) h 11 = lpH2 (fun k => ((fX5_band G (nI 0) (nI k) 0).1).toInt64) (fun k => ((fX5_band G (nI 0) (nI k) 1).1).toInt64) h 11 := lpH2_c 11 (fun i hi => by
      show (fX6_bandOf M.2.2.1 (nI i) 0).toInt64 = ((fX5_band G (nI 0) (nI i) 0).1).toInt64 ∧ (fX6_bandOf M.2.2.1 (nI i) 1).toInt64 = ((fX5_band G (nI 0) (nI i) 1).1).toInt64
      rw [show fX5_band G (nI 0) (nI i) 0 = _ from band_g R (s := 0) (k := i) (w := 0) (by decide) hi (by decide), show fX5_band G (nI 0) (nI i) 1 = _ from band_g R (s := 0) (k := i) (w := 1) (by decide) hi (by decide), show 11 * 0 + i = i by omega]
      exact ⟨rfl, rfl⟩)
    rw [q0]
    exact lpH2_c 11 (fun i hi => by
      show (fX6_bandOf M.2.2.1 (nI (11 + i)) 0).toInt64 = ((fX5_band G (nI (0 + 1)) (nI i) 0).1).toInt64 ∧ (fX6_bandOf M.2.2.1 (nI (11 + i)) 1).toInt64 = ((fX5_band G (nI (0 + 1)) (nI i) 1).1).toInt64
      rw [show fX5_band G (nI (0 + 1)) (nI i) 0 = _ from band_g R (s := 1) (k := i) (w := 0) (by decide) hi (by decide), show fX5_band G (nI (0 + 1)) (nI i) 1 = _ from band_g R (s := 1) (k := i) (w := 1) (by decide) hi (by decide), show 11 * 1 + i = 11 + i by omega]
      exact ⟨rfl, rfl⟩)
  have h6 : ∀ h, lpH2 (fun i => (fX6_lastsBy M.2.2.1 (nI (1 + i)) 0).toInt64) (fun i => (fX6_lastsBy M.2.2.1 (nI (1 + i)) 1).toInt64) h 3 = lpH2 (fun i => ((fX5_lasts G (nI (1 + i)) 0).1).toInt64) (fun i => ((fX5_lasts G (nI (1 + i)) 1).1).toInt64) h 3 := fun h => lpH2_c 3 (fun i hi => by
    show (fX6_lastsBy M.2.2.1 (nI (1 + i)) 0).toInt64 = ((fX5_lasts G (nI (1 + i)) 0).1).toInt64 ∧ (fX6_lastsBy M.2.2.1 (nI (1 + i)) 1).toInt64 = ((fX5_lasts G (nI (1 + i)) 1).1).toInt64
    rw [show fX5_lasts G (nI (1 + i)) 0 = _ from last_g R (i := i) (w := 0) hi (by decide), show fX5_lasts G (nI (1 + i)) 1 = _ from last_g R (i := i) (w := 1) hi (by decide)]
    exact ⟨rfl, rfl⟩)
  rw [h1, h2, h3, h4, h5, h6]
theorem B_digest (R : Rel G M c) : gBl l E g0 b u0 u1 rr t a G M c yX5_digest wsX5_digest rX5_digest yX6_digest wsX6_digest rX6_digest [] := by
  refine ⟨fX5_digest G, G, (fX6_digest M).2, kX5_digest l E g0 b u0 u1 rr t G (rel_o5 R) (fun i hi => by rw [rfo_eq R i (by omega)]) (fun i hi => by rw [told_g R hi]) (fun i hi => by rw [(set_g R hi).1]) (fun i k hi hk => ⟨by rw [show fX5_band G (nI i) (nI k) 0 = _ from band_g R (s := i) (k := k) (w := 0) hi hk (by decide)], by rw [show fX5_band G (nI i) (nI k) 1 = _ from band_g R (s := i) (k := k) (w := 1) hi hk (by decide)]⟩) (fun i hi => ⟨by rw [show fX5_lasts G (nI (1 + i)) 0 = _ from last_g R (i := i) (w := 0) hi (by decide)], by rw [show fX5_lasts G (nI (1 + i)) 1 = _ from last_g R (i := i) (w := 1) hi (by decide)]⟩), ?_, ?_⟩
  · rw [← dig_eq R]
    exact kX6_digest l E a M (rel_o6 R)
  · have R' := Rel_m 40 R
    obtain ⟨hb, rf, hz, tx⟩ := R'
    exact ⟨hb, rf, hz, tx⟩
end FACE
