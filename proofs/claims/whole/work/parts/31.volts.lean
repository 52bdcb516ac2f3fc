/-! VOLTS: both sides' rest voltage is one function of whole numbers, and it never falls -/
theorem i32_up (x : Int32) : x.toInt < 2147483648 ∧ -2147483648 ≤ x.toInt := by
  have h1 := x.toInt_lt
  have h2 := x.le_toInt
  exact ⟨by omega, by omega⟩
theorem nI_Of {x : Int32} (h : 0 ≤ x.toInt) : nI x.toInt.toNat = x := by
  have h1 := (i32_up x).1
  exact t32_eq.mpr (by rw [nI_toInt (by omega)]; omega)
def kk (p : Nat) : Nat := if p = 1000 then 9 else p / 100
theorem kk_in {p : Nat} (h : p ≤ 1000) : kk p ≤ 9 ∧ 100 * kk p ≤ p ∧ p ≤ 100 * kk p + 100 := by
  unfold kk
  by_cases c : p = 1000
  · rw [if_pos c]; omega
  · rw [if_neg c]; omega
theorem kk_s {p : Nat} (h : p + 1 ≤ 1000) : kk (p + 1) = kk p ∨ (kk (p + 1) = kk p + 1 ∧ p + 1 = 100 * kk (p + 1)) := by
  unfold kk
  rw [if_neg (show ¬ p = 1000 by omega)]
  by_cases c : p + 1 = 1000
  · rw [if_pos c]; omega
  · rw [if_neg c]; omega
def VI (f : Nat → Int) (p : Nat) : Int := f (kk p) + ((f (kk p + 1) - f (kk p)) * ((p : Int) - 100 * (kk p : Int))) / 100
def PI (f : Nat → Int) : Prop := (∀ k, k < 11 → 0 ≤ f k ∧ f k ≤ 9999) ∧ (∀ k, k < 10 → f k < f (k + 1))
theorem VI_p {d r : Int} (h1 : 0 ≤ d) (h2 : d ≤ 9999) (h3 : 0 ≤ r) (h4 : r ≤ 100) : 0 ≤ d * r ∧ d * r ≤ 999900 ∧ 0 ≤ d * r / 100 ∧ d * r / 100 ≤ d := by
  have a1 : 0 ≤ d * r := Int.mul_nonneg h1 h3
  have a2 : d * r ≤ d * 100 := Int.mul_le_mul_of_nonneg_left h4 h1
  refine ⟨a1, by omega, by omega, by omega⟩
theorem VI_in {f : Nat → Int} (h : PI f) {p : Nat} (hp : p ≤ 1000) : f (kk p) ≤ VI f p ∧ VI f p ≤ f (kk p + 1) ∧ 0 ≤ VI f p ∧ VI f p ≤ 9999 := by
  obtain ⟨k1, k2, k3⟩ := kk_in hp
  have a := h.1 (kk p) (by omega)
  have b := h.1 (kk p + 1) (by omega)
  have c := h.2 (kk p) (by omega)
  have d := VI_p (d := f (kk p + 1) - f (kk p)) (r := (p : Int) - 100 * (kk p : Int)) (by omega) (by omega) (by omega) (by omega)
  unfold VI
  refine ⟨by omega, by omega, by omega, by omega⟩
theorem VI_s {f : Nat → Int} (h : PI f) {p : Nat} (hp : p + 1 ≤ 1000) : VI f p ≤ VI f (p + 1) := by
  rcases kk_s hp with e | ⟨e, g⟩
  · have c := h.2 (kk p) (by have := kk_in (show p ≤ 1000 by omega); omega)
    unfold VI
    rw [e]
    have a : (f (kk p + 1) - f (kk p)) * ((p : Int) - 100 * (kk p : Int)) ≤ (f (kk p + 1) - f (kk p)) * (((p + 1 : Nat) : Int) - 100 * (kk p : Int)) := Int.mul_le_mul_of_nonneg_left (by omega) (by omega)
    have b := Int.ediv_le_ediv (show (0 : Int) < 100 by decide) a
    omega
  · have a := (VI_in h (p := p) (by omega)).2.1
    have b := (VI_in h (p := p + 1) (by omega)).1
    rw [e] at b
    omega
theorem VI_m {f : Nat → Int} (h : PI f) : ∀ (n : Nat) {p : Nat}, p + n ≤ 1000 → VI f p ≤ VI f (p + n)
  | 0, p, _ => Int.le_refl _
  | n + 1, p, hp => Int.le_trans (VI_m h n (p := p) (by omega)) (VI_s h (p := p + n) (by omega))
theorem VI_mono {f : Nat → Int} (h : PI f) {p q : Nat} (hpq : p ≤ q) (hq : q ≤ 1000) : VI f p ≤ VI f q := by
  have a := VI_m h (q - p) (p := p) (by omega)
  rwa [show p + (q - p) = q by omega] at a
/-- how many places lie below v -/
theorem VI_cnt {f : Nat → Int} (h : PI f) (v : Int) : ∀ n : Nat, n ≤ 1001 → ∃ m, m ≤ n ∧ (∀ p, p < m → VI f p < v) ∧ (∀ p, m ≤ p → p < n → v ≤ VI f p)
  | 0, _ => ⟨0, Nat.le_refl _, fun p hp => absurd hp (by omega), fun p _ hp => absurd hp (by omega)⟩
  | n + 1, hn => by
    obtain ⟨m, h1, h2, h3⟩ := VI_cnt h v n (by omega)
    by_cases c : m = n ∧ VI f n < v
    · refine ⟨n + 1, Nat.le_refl _, fun p hp => ?_, fun p h4 h5 => absurd h4 (by omega)⟩
      exact Int.lt_of_le_of_lt (VI_mono h (show p ≤ n by omega) (by omega)) c.2
    · refine ⟨m, by omega, h2, fun p h4 h5 => ?_⟩
      by_cases e : p < n
      · exact h3 p h4 e
      · have e2 : p = n := by omega
        subst e2
        by_cases e3 : m = p
        · exact Int.not_lt.mp (fun q => c ⟨e3, q⟩)
        · exact Int.le_trans (h3 m (Nat.le_refl _) (by omega)) (VI_mono h h4 (by omega))
def Below (f : Nat → Int) (v : Int) (m : Nat) : Prop := m ≤ 1001 ∧ (∀ p, p < m → VI f p < v) ∧ (∀ p, m ≤ p → p ≤ 1000 → v ≤ VI f p)
theorem VI_b {f : Nat → Int} (h : PI f) (v : Int) : ∃ m, Below f v m := by
  obtain ⟨m, a, b, c⟩ := VI_cnt h v 1001 (Nat.le_refl _)
  exact ⟨m, a, b, fun p h1 h2 => c p h1 (by omega)⟩
theorem kk_nI {p : Nat} (hp : p ≤ 1000) : (if nI p = 1000 then 9 else (nI p / 100)) = nI (kk p) := by
  have e : (nI p).toInt = (p : Int) := nI_toInt (by omega)
  have k := kk_in hp
  rw [t32_eq, if32, nI_toInt (by omega), d32 (by omega) (by decide), e]
  unfold kk
  by_cases c : p = 1000
  · rw [if_pos c, if_pos (show nI p = 1000 by rw [c]; decide +kernel)]; rfl
  · rw [if_neg c, if_neg (show ¬ nI p = 1000 by rw [t32_eq, e]; simp only [Int32.reduceToInt]; omega)]
    simp only [Int32.reduceToInt]
    omega
theorem kk_r {p : Nat} (hp : p ≤ 1000) : (nI p - (100 * nI (kk p))).toInt = (p : Int) - 100 * (kk p : Int) := by
  have e : (nI p).toInt = (p : Int) := nI_toInt (by omega)
  have k := kk_in hp
  have e2 : (nI (kk p)).toInt = (kk p : Int) := nI_toInt (by omega)
  have e3 : (100 * nI (kk p)).toInt = 100 * (kk p : Int) := by
    rw [m32 (by simp only [Int32.reduceToInt]; omega) (by simp only [Int32.reduceToInt]; omega), e2]; rfl
  rw [s32 (by omega) (by omega), e, e3]
theorem volt_c {C : Nat → Int32} (h : PI (fun k => (C k).toInt)) {p : Nat} (hp : p ≤ 1000) : (fX2_voltsAt C (nI p)).toInt = VI (fun k => (C k).toInt) p := by
  have e : (nI p).toInt = (p : Int) := nI_toInt (by omega)
  have k := kk_in hp
  unfold fX2_voltsAt
  rw [if_neg (show ¬ nI p < 0 from nI_pos (by omega)), if_pos (show nI p ≤ 1000 by rw [t32_le, e]; simp only [Int32.reduceToInt]; omega)]
  simp only [kk_nI hp]
  rw [show nI (kk p) + 1 = nI (kk p + 1) from (nI_succ _).symm, nI_clamp (show kk p < 2 ^ 31 by omega), nI_clamp (show kk p + 1 < 2 ^ 31 by omega)]
  have a : 0 ≤ (C (kk p)).toInt ∧ (C (kk p)).toInt ≤ 9999 := h.1 (kk p) (by omega)
  have b : 0 ≤ (C (kk p + 1)).toInt ∧ (C (kk p + 1)).toInt ≤ 9999 := h.1 (kk p + 1) (by omega)
  have c : (C (kk p)).toInt < (C (kk p + 1)).toInt := h.2 (kk p) (by omega)
  have r := kk_r hp
  have d := VI_p (d := (C (kk p + 1)).toInt - (C (kk p)).toInt) (r := (p : Int) - 100 * (kk p : Int)) (by omega) (by omega) (by omega) (by omega)
  have e1 : (C (kk p + 1) - C (kk p)).toInt = (C (kk p + 1)).toInt - (C (kk p)).toInt := s32 (by omega) (by omega)
  have e2 : ((C (kk p + 1) - C (kk p)) * (nI p - (100 * nI (kk p)))).toInt = ((C (kk p + 1)).toInt - (C (kk p)).toInt) * ((p : Int) - 100 * (kk p : Int)) := by
    rw [m32 (by rw [e1, r]; omega) (by rw [e1, r]; omega), e1, r]
  have e3 : (((C (kk p + 1) - C (kk p)) * (nI p - (100 * nI (kk p)))) / 100).toInt = ((C (kk p + 1)).toInt - (C (kk p)).toInt) * ((p : Int) - 100 * (kk p : Int)) / 100 := by
    rw [d32 (by rw [e2]; omega) (by decide), e2]; rfl
  rw [a32 (by rw [e3]; omega) (by rw [e3]; omega), e3]
  rfl
theorem volt_r {W : Nat → Int64} {C : Nat → Int32} (h : PI (fun k => (C k).toInt)) (g : ∀ k, k < 11 → (W (13 + k)).toInt = (C k).toInt) {p : Nat} (hp : p ≤ 1000) : (fX6_voltsAt W (nI p)).toInt = VI (fun k => (C k).toInt) p := by
  have k := kk_in hp
  have q := VI_in h hp
  unfold fX6_voltsAt
  simp only [kk_nI hp]
  rw [show (13 : Int32) + nI (kk p) = nI (13 + kk p) from nI_add 13 (kk p), show nI (13 + kk p) + 1 = nI (13 + (kk p + 1)) from (nI_succ _).symm, nI_clamp (show 13 + kk p < 2 ^ 31 by omega), nI_clamp (show 13 + (kk p + 1) < 2 ^ 31 by omega)]
  have a : 0 ≤ (C (kk p)).toInt ∧ (C (kk p)).toInt ≤ 9999 := h.1 (kk p) (by omega)
  have b : 0 ≤ (C (kk p + 1)).toInt ∧ (C (kk p + 1)).toInt ≤ 9999 := h.1 (kk p + 1) (by omega)
  have c : (C (kk p)).toInt < (C (kk p + 1)).toInt := h.2 (kk p) (by omega)
  have g1 := g (kk p) (by omega)
  have g2 := g (kk p + 1) (by omega)
  have r : ((nI p - (100 * nI (kk p))).toInt64).toInt = (p : Int) - 100 * (kk p : Int) := by rw [w64]; exact kk_r hp
  have d := VI_p (d := (C (kk p + 1)).toInt - (C (kk p)).toInt) (r := (p : Int) - 100 * (kk p : Int)) (by omega) (by omega) (by omega) (by omega)
  have e1 : (W (13 + (kk p + 1)) - W (13 + kk p)).toInt = (C (kk p + 1)).toInt - (C (kk p)).toInt := by rw [s64 (by omega) (by omega), g1, g2]
  have e2 : ((W (13 + (kk p + 1)) - W (13 + kk p)) * (nI p - (100 * nI (kk p))).toInt64).toInt = ((C (kk p + 1)).toInt - (C (kk p)).toInt) * ((p : Int) - 100 * (kk p : Int)) := by
    rw [m64 (by rw [e1, r]; omega) (by rw [e1, r]; omega), e1, r]
  have e3 : (((W (13 + (kk p + 1)) - W (13 + kk p)) * (nI p - (100 * nI (kk p))).toInt64) / 100).toInt = ((C (kk p + 1)).toInt - (C (kk p)).toInt) * ((p : Int) - 100 * (kk p : Int)) / 100 := by
    rw [d64 (by rw [e2]; omega) (by decide), e2]; rfl
  have e4 : (W (13 + kk p) + (((W (13 + (kk p + 1)) - W (13 + kk p)) * (nI p - (100 * nI (kk p))).toInt64) / 100)).toInt = VI (fun k => (C k).toInt) p := by
    rw [a64 (by rw [e3]; omega) (by rw [e3]; omega), e3, g1]; rfl
  rw [l32 (by rw [e4]; omega) (by rw [e4]; omega), e4]
/-- the binary search finds the count -/
theorem fPB_m {C : Nat → Int32} {v : Int32} (h : PI (fun k => (C k).toInt)) {m : Nat} (hm : Below (fun k => (C k).toInt) v.toInt m) : ∀ (n q : Nat) (z : Int32), n ≤ 10 → z = nI (2 ^ n / 2) → q ≤ m → m < q + 2 ^ n → fPB C v n z (nI q) = nI m
  | 0, q, z, _, _, h1, h2 => by
    have e : q = m := by simp only [Nat.pow_zero] at h2; omega
    rw [e]; rfl
  | n + 1, q, z, hn, hz, h1, h2 => by
    have e0 : 2 ^ (n + 1) / 2 = 2 ^ n := by rw [Nat.pow_succ]; omega
    have e1 : 2 ^ (n + 1) = 2 * 2 ^ n := by rw [Nat.pow_succ]; omega
    have e2 : 2 ^ n ≤ 512 := by
      have : 2 ^ n ≤ 2 ^ 9 := Nat.pow_le_pow_right (by decide) (by omega)
      exact this
    have e3 : 1 ≤ 2 ^ n := Nat.one_le_two_pow
    have ez : z / 2 = nI (2 ^ n / 2) := by
      rw [hz, e0, t32_eq, d32 (by rw [nI_toInt (by omega)]; omega) (by decide), nI_toInt (by omega), nI_toInt (by omega)]
      simp only [Int32.reduceToInt]
      omega
    have hm1 := hm.1
    have eqz : nI q + z = nI (q + 2 ^ n) := by rw [hz, e0, nI_add]
    show fPB C v n (z / 2) (if 1001 < nI q + z then nI q else (if v ≤ fX2_voltsAt C (nI q + z - 1) then nI q else nI q + z)) = nI m
    by_cases c : 1001 < q + 2 ^ n
    · rw [eqz, if_pos (show (1001 : Int32) < nI (q + 2 ^ n) by rw [t32_lt, nI_toInt (by omega)]; simp only [Int32.reduceToInt]; omega)]
      exact fPB_m h hm n q _ (by omega) ez h1 (by omega)
    · have e4 : nI (q + 2 ^ n) - 1 = nI (q + 2 ^ n - 1) := by
        rw [show q + 2 ^ n = (q + 2 ^ n - 1) + 1 by omega, nI_pred]; rfl
      have e5 := volt_c h (p := q + 2 ^ n - 1) (by omega)
      rw [eqz, if_neg (show ¬ (1001 : Int32) < nI (q + 2 ^ n) by rw [t32_lt, nI_toInt (by omega)]; simp only [Int32.reduceToInt]; omega), e4]
      by_cases d : v ≤ fX2_voltsAt C (nI (q + 2 ^ n - 1))
      · rw [if_pos d]
        rw [t32_le, e5] at d
        refine fPB_m h hm n q _ (by omega) ez h1 ?_
        by_cases u : q + 2 ^ n - 1 < m
        · have := hm.2.1 _ u; omega
        · omega
      · rw [if_neg d]
        rw [t32_le, e5] at d
        refine fPB_m h hm n (q + 2 ^ n) _ (by omega) ez ?_ (by omega)
        by_cases u : m ≤ q + 2 ^ n - 1
        · have := hm.2.2 _ u (by omega); omega
        · omega
theorem pb_m {C : Nat → Int32} {v : Int32} (h : PI (fun k => (C k).toInt)) {m : Nat} (hm : Below (fun k => (C k).toInt) v.toInt m) : fX2_placesBelow C v = nI m := by
  have hm1 := hm.1
  have a := fPB_m h hm 10 0 512 (by omega) (by decide +kernel) (by omega) (by omega)
  exact a
