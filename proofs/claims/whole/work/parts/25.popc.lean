/-! ===== counting bits the JDK's way ===== -/
def pp_5 : Nat → Nat
  | 0 => 0
  | k + 1 => 256 * pp_5 k + 85
def pp_3 : Nat → Nat
  | 0 => 0
  | k + 1 => 256 * pp_3 k + 51
def pp_f : Nat → Nat
  | 0 => 0
  | k + 1 => 256 * pp_f k + 15
def pp_A (k n : Nat) : Nat := n - ((n / 2) &&& pp_5 k)
def pp_B (k n : Nat) : Nat := (pp_A k n &&& pp_3 k) + ((pp_A k n / 4) &&& pp_3 k)
def pp_C (k n : Nat) : Nat := (pp_B k n + pp_B k n / 16) &&& pp_f k
theorem pp_and {a b c d : Nat} (hb : b < 256) (hd : d < 256) : (256 * a + b) &&& (256 * c + d) = 256 * (a &&& c) + (b &&& d) := by
  have h1 : ((256 * a + b) &&& (256 * c + d)) % 2 ^ 8 = b &&& d := by
    rw [Nat.and_mod_two_pow]
    rw [show (256 * a + b) % 2 ^ 8 = b by omega, show (256 * c + d) % 2 ^ 8 = d by omega]
  have h2 : ((256 * a + b) &&& (256 * c + d)) / 2 ^ 8 = a &&& c := by
    rw [Nat.and_div_two_pow]
    rw [show (256 * a + b) / 2 ^ 8 = a by omega, show (256 * c + d) / 2 ^ 8 = c by omega]
  omega
theorem pp_d1 : ∀ e, e < 2 → ∀ r, r < 256 → (128 * e + r / 2) &&& 85 = (r / 2) &&& 85 := by decide +kernel
theorem pp_d2 : ∀ e, e < 4 → ∀ r, r < 256 → (64 * e + r / 4) &&& 51 = (r / 4) &&& 51 := by decide +kernel
theorem pp_d3 : ∀ r, r < 256 → (r / 2) &&& 85 ≤ r ∧ r - ((r / 2) &&& 85) < 256 := by decide +kernel
theorem pp_d4 : ∀ r, r < 256 → (((r - ((r / 2) &&& 85)) &&& 51) + (((r - ((r / 2) &&& 85)) / 4) &&& 51)) % 16 ≤ 4 ∧ (((r - ((r / 2) &&& 85)) &&& 51) + (((r - ((r / 2) &&& 85)) / 4) &&& 51)) / 16 ≤ 4 := by decide +kernel
theorem pp_d5 : ∀ t, t < 256 → t &&& 15 = t % 16 := by decide +kernel
theorem pp_A1 {m r : Nat} (k : Nat) (hr : r < 256) : pp_A (k + 1) (256 * m + r) = 256 * pp_A k m + pp_A 1 r := by
  have e : (256 * m + r) / 2 = 256 * (m / 2) + (128 * (m % 2) + r / 2) := by omega
  have h1 : (128 * (m % 2) + r / 2) &&& 85 = (r / 2) &&& 85 := pp_d1 _ (by omega) _ hr
  have h2 := pp_d3 r hr
  have h3 : (m / 2) &&& pp_5 k ≤ m / 2 := Nat.and_le_left
  show 256 * m + r - (((256 * m + r) / 2) &&& (256 * pp_5 k + 85)) = 256 * (m - ((m / 2) &&& pp_5 k)) + (r - ((r / 2) &&& 85))
  rw [e, pp_and (by omega) (by omega), h1]
  omega
theorem pp_Alt {r : Nat} (hr : r < 256) : pp_A 1 r < 256 := (pp_d3 r hr).2
theorem pp_B1 {m r : Nat} (k : Nat) (hr : r < 256) : pp_B (k + 1) (256 * m + r) = 256 * pp_B k m + pp_B 1 r := by
  have ha := pp_Alt hr
  have e : (256 * pp_A k m + pp_A 1 r) / 4 = 256 * (pp_A k m / 4) + (64 * (pp_A k m % 4) + pp_A 1 r / 4) := by omega
  have h1 : (64 * (pp_A k m % 4) + pp_A 1 r / 4) &&& 51 = (pp_A 1 r / 4) &&& 51 := pp_d2 _ (by omega) _ ha
  show (pp_A (k + 1) (256 * m + r) &&& (256 * pp_3 k + 51)) + ((pp_A (k + 1) (256 * m + r) / 4) &&& (256 * pp_3 k + 51)) = 256 * ((pp_A k m &&& pp_3 k) + ((pp_A k m / 4) &&& pp_3 k)) + ((pp_A 1 r &&& 51) + ((pp_A 1 r / 4) &&& 51))
  rw [pp_A1 k hr, e, pp_and ha (by omega), pp_and (by omega) (by omega), h1]
  omega
theorem pp_Bnib {r : Nat} (hr : r < 256) : pp_B 1 r % 16 ≤ 4 ∧ pp_B 1 r / 16 ≤ 4 := pp_d4 r hr
theorem pp_Bn : ∀ (k m : Nat), m < 256 ^ k → pp_B k m % 16 ≤ 4
  | 0, m, h => by
    have : m = 0 := by simpa using h
    subst this
    decide
  | k + 1, m, h => by
    have e : m = 256 * (m / 256) + m % 256 := by omega
    rw [e, pp_B1 k (by omega)]
    have := (pp_Bnib (r := m % 256) (by omega)).1
    omega
theorem pp_C1 {m r : Nat} (k : Nat) (hm : m < 256 ^ k) (hr : r < 256) : pp_C (k + 1) (256 * m + r) = 256 * pp_C k m + pp_C 1 r := by
  have hb := pp_Bnib hr
  have hB := pp_Bn k m hm
  have e : 256 * pp_B k m + pp_B 1 r + (256 * pp_B k m + pp_B 1 r) / 16 = 256 * (pp_B k m + pp_B k m / 16) + (16 * (pp_B k m % 16) + pp_B 1 r + pp_B 1 r / 16) := by omega
  show (pp_B (k + 1) (256 * m + r) + pp_B (k + 1) (256 * m + r) / 16) &&& (256 * pp_f k + 15) = 256 * ((pp_B k m + pp_B k m / 16) &&& pp_f k) + ((pp_B 1 r + pp_B 1 r / 16) &&& 15)
  rw [pp_B1 k hr, e, pp_and (by omega) (by omega), pp_d5 _ (by omega), pp_d5 _ (by omega)]
  omega
theorem pp_8 : ∀ r, r < 256 → pp_C 1 r = fb_ct (fun i => r.testBit i) 8 ∧ pp_C 1 r ≤ 8 := by decide +kernel
theorem pp_tb {m r : Nat} (hr : r < 256) (j : Nat) : (256 * m + r).testBit (8 + j) = m.testBit j := by
  rw [Nat.add_comm 8 j, Nat.testBit_add, show (256 * m + r) / 2 ^ 8 = m by omega]
theorem pp_tb0 {m r : Nat} {j : Nat} (hr : r < 256) (hj : j < 8) : (256 * m + r).testBit j = r.testBit j := by
  have : r = (256 * m + r) % 2 ^ 8 := by omega
  conv => rhs; rw [this]
  rw [Nat.testBit_mod_two_pow]
  simp [hj]
theorem pp_ct {m r : Nat} (k : Nat) (hr : r < 256) : fb_ct (fun i => (256 * m + r).testBit i) (8 + k) = fb_ct (fun i => r.testBit i) 8 + fb_ct (fun i => m.testBit i) k := by
  rw [fb_ct_split]
  congr 1
  · exact fb_ct_cong (fun j hj => pp_tb0 hr hj)
  · exact fb_ct_cong (fun j _ => pp_tb hr j)
/-- the bytes' counts, one behind another -/
def pp_sum : Nat → Nat → Nat
  | 0, _ => 0
  | k + 1, c => c % 256 + pp_sum k (c / 256)
theorem pp_Csum : ∀ (k n : Nat), n < 256 ^ k → pp_C k n < 256 ^ k ∧ pp_sum k (pp_C k n) = fb_ct (fun i => n.testBit i) (8 * k)
  | 0, n, h => by
    have : n = 0 := by simpa using h
    subst this
    exact ⟨by decide, rfl⟩
  | k + 1, n, h => by
    have e : n = 256 * (n / 256) + n % 256 := by omega
    have hm : n / 256 < 256 ^ k := by rw [Nat.pow_succ] at h; omega
    obtain ⟨h1, h2⟩ := pp_Csum k (n / 256) hm
    have h8 := pp_8 (n % 256) (by omega)
    rw [e, pp_C1 k hm (by omega)]
    refine ⟨by rw [Nat.pow_succ]; omega, ?_⟩
    rw [show 8 * (k + 1) = 8 + 8 * k by omega, pp_ct _ (by omega), ← h8.1, ← h2]
    show (256 * pp_C k (n / 256) + pp_C 1 (n % 256)) % 256 + pp_sum k ((256 * pp_C k (n / 256) + pp_C 1 (n % 256)) / 256) = _
    rw [show (256 * pp_C k (n / 256) + pp_C 1 (n % 256)) % 256 = pp_C 1 (n % 256) by omega, show (256 * pp_C k (n / 256) + pp_C 1 (n % 256)) / 256 = pp_C k (n / 256) by omega]
theorem pp_dig : ∀ (k n : Nat), n < 256 ^ k → ∀ j, pp_C k n / 256 ^ j % 256 ≤ 8
  | 0, n, h, j => by
    have : n = 0 := by simpa using h
    subst this
    show 0 / 256 ^ j % 256 ≤ 8
    simp
  | k + 1, n, h, j => by
    have e : n = 256 * (n / 256) + n % 256 := by omega
    have hm : n / 256 < 256 ^ k := by rw [Nat.pow_succ] at h; omega
    have h8 := pp_8 (n % 256) (by omega)
    rw [e, pp_C1 k hm (by omega)]
    cases j with
    | zero => simp; omega
    | succ j =>
      have := pp_dig k (n / 256) hm j
      rw [Nat.pow_succ, Nat.mul_comm (256 ^ j) 256, ← Nat.div_div_eq_div_mul, show (256 * pp_C k (n / 256) + pp_C 1 (n % 256)) / 256 = pp_C k (n / 256) by omega]
      exact this
theorem pp_v1 {c d X : Nat} (h : c = d + 256 * X) (hd : d < 256) : c / 256 = X := by omega
theorem pp_v2 {e s X : Nat} (h : e = s + 65536 * X) (hs : s < 65536) : e / 65536 = X := by omega
theorem pp_v4 {e s X : Nat} (h : e = s + 4294967296 * X) (hs : s < 4294967296) : e / 4294967296 = X := by omega
theorem pp_s8 {c d0 d1 d2 d3 d4 d5 d6 d7 X1 X2 X3 X4 X5 X6 : Nat} (hc : c = d0 + 256 * X1) (x1 : X1 = d1 + 256 * X2) (x2 : X2 = d2 + 256 * X3) (x3 : X3 = d3 + 256 * X4) (x4 : X4 = d4 + 256 * X5) (x5 : X5 = d5 + 256 * X6) (x6 : X6 = d6 + 256 * d7) (h0 : d0 ≤ 8) (h1 : d1 ≤ 8) (h2 : d2 ≤ 8) (h3 : d3 ≤ 8) (h4 : d4 ≤ 8) (h5 : d5 ≤ 8) (h6 : d6 ≤ 8) (h7 : d7 ≤ 8) :
    (c + c / 256 + (c + c / 256) / 65536 + (c + c / 256 + (c + c / 256) / 65536) / 4294967296) % 128 = d0 + d1 + d2 + d3 + d4 + d5 + d6 + d7 := by
  rw [pp_v1 hc (by omega)]
  have e2 : c + X1 = ((d0 + d1) + 256 * (d1 + d2)) + 65536 * (X2 + X3) := by rw [hc, x1, x2]; omega
  rw [pp_v2 e2 (by omega)]
  have e4 : c + X1 + (X2 + X3) = ((d0 + d1 + d2 + d3) + 256 * (d1 + d2 + d3 + d4) + 65536 * (d2 + d3 + d4 + d5) + 16777216 * (d3 + d4 + d5 + d6)) + 4294967296 * (X4 + X5 + X6 + d7) := by
    rw [e2]
    have e5 : X2 + X3 = (d2 + d3) + 256 * (d3 + d4) + 65536 * (X4 + X5) := by rw [x2, x3, x4]; omega
    have e6 : X4 + X5 = (d4 + d5) + 256 * (d5 + d6) + 65536 * (X6 + d7) := by rw [x4, x5, x6]; omega
    clear hc x1 x2 x3 x4 x5 x6 e2
    omega
  rw [pp_v4 e4 (by omega), e4]
  have e7 : X4 + X5 + X6 + d7 = (d4 + d5 + d6 + d7) + 256 * (X5 + X6 + d7) := by rw [x4, x5, x6]; omega
  rw [e7]
  clear hc x1 x2 x3 x4 x5 x6 e2 e4 e7
  omega
theorem pp_s4 {c d0 d1 d2 d3 X1 X2 : Nat} (hc : c = d0 + 256 * X1) (x1 : X1 = d1 + 256 * X2) (x2 : X2 = d2 + 256 * d3) (h0 : d0 ≤ 8) (h1 : d1 ≤ 8) (h2 : d2 ≤ 8) (h3 : d3 ≤ 8) :
    (c + c / 256 + (c + c / 256) / 65536) % 64 = d0 + d1 + d2 + d3 := by
  rw [pp_v1 hc (by omega)]
  have e2 : c + X1 = ((d0 + d1) + 256 * (d1 + d2)) + 65536 * (X2 + d3) := by rw [hc, x1, x2]; omega
  rw [pp_v2 e2 (by omega), e2]
  omega
theorem pp_64 (n : Nat) (h : n < 2 ^ 64) : (pp_C 8 n + pp_C 8 n / 256 + (pp_C 8 n + pp_C 8 n / 256) / 65536 + (pp_C 8 n + pp_C 8 n / 256 + (pp_C 8 n + pp_C 8 n / 256) / 65536) / 4294967296) % 128 = fb_ct (fun i => n.testBit i) 64 := by
  have h256 : n < 256 ^ 8 := by have : (256 : Nat) ^ 8 = 2 ^ 64 := by decide
                                omega
  obtain ⟨h1, h2⟩ := pp_Csum 8 n h256
  have hd := pp_dig 8 n h256
  rw [show fb_ct (fun i => n.testBit i) 64 = fb_ct (fun i => n.testBit i) (8 * 8) from rfl, ← h2]
  generalize pp_C 8 n = c at *
  have d0 := hd 0
  have d1 := hd 1
  have d2 := hd 2
  have d3 := hd 3
  have d4 := hd 4
  have d5 := hd 5
  have d6 := hd 6
  have d7 := hd 7
  simp only [Nat.reducePow, Nat.div_one] at d0 d1 d2 d3 d4 d5 d6 d7 h1
  rw [pp_s8 (d0 := c % 256) (d1 := c / 256 % 256) (d2 := c / 65536 % 256) (d3 := c / 16777216 % 256) (d4 := c / 4294967296 % 256) (d5 := c / 1099511627776 % 256) (d6 := c / 281474976710656 % 256) (d7 := c / 72057594037927936 % 256) (X1 := c / 256) (X2 := c / 65536) (X3 := c / 16777216) (X4 := c / 4294967296) (X5 := c / 1099511627776) (X6 := c / 281474976710656) (by omega) (by omega) (by omega) (by omega) (by omega) (by omega) (by omega) d0 d1 d2 d3 d4 d5 d6 d7]
  simp only [pp_sum, Nat.div_div_eq_div_mul, Nat.reduceMul]
  omega
theorem pp_32 (n : Nat) (h : n < 2 ^ 32) : (pp_C 4 n + pp_C 4 n / 256 + (pp_C 4 n + pp_C 4 n / 256) / 65536) % 64 = fb_ct (fun i => n.testBit i) 32 := by
  have h256 : n < 256 ^ 4 := by have : (256 : Nat) ^ 4 = 2 ^ 32 := by decide
                                omega
  obtain ⟨h1, h2⟩ := pp_Csum 4 n h256
  have hd := pp_dig 4 n h256
  rw [show fb_ct (fun i => n.testBit i) 32 = fb_ct (fun i => n.testBit i) (8 * 4) from rfl, ← h2]
  generalize pp_C 4 n = c at *
  have d0 := hd 0
  have d1 := hd 1
  have d2 := hd 2
  have d3 := hd 3
  simp only [Nat.reducePow, Nat.div_one] at d0 d1 d2 d3 h1
  rw [pp_s4 (d0 := c % 256) (d1 := c / 256 % 256) (d2 := c / 65536 % 256) (d3 := c / 16777216 % 256) (X1 := c / 256) (X2 := c / 65536) (by omega) (by omega) (by omega) d0 d1 d2 d3]
  simp only [pp_sum, Nat.div_div_eq_div_mul, Nat.reduceMul]
  omega
