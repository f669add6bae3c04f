/-! ===== longs as sets ===== -/
def bl (x : Int64) (i : Nat) : Bool := x.toBitVec.getLsbD i
theorem bl_lN (n i : Nat) : bl (lN n) i = (decide (i < 64) && n.testBit i) := by
  unfold bl
  rw [wb_tb]
  simp [BitVec.getLsbD_ofNat]
theorem bl_ext {x y : Int64} (h : ∀ i, i < 64 → bl x i = bl y i) : x = y := by
  apply wb_inj
  exact BitVec.eq_of_getLsbD_eq (fun i hi => h i hi)
theorem bl_big {x : Int64} {i : Nat} (h : 64 ≤ i) : bl x i = false := BitVec.getLsbD_of_ge _ _ h
theorem bl_lt {x : Int64} {i : Nat} (h : bl x i = true) : i < 64 := Nat.lt_of_not_le fun q => by rw [bl_big q] at h; cases h
theorem bl_and (x y : Int64) (i : Nat) : bl (x &&& y) i = (bl x i && bl y i) := by
  unfold bl
  rw [Int64.toBitVec_and, BitVec.getLsbD_and]
theorem bl_or (x y : Int64) (i : Nat) : bl (x ||| y) i = (bl x i || bl y i) := by
  unfold bl
  rw [Int64.toBitVec_or, BitVec.getLsbD_or]
theorem bl_xor (x y : Int64) (i : Nat) : bl (x ^^^ y) i = (bl x i ^^ bl y i) := by
  unfold bl
  rw [Int64.toBitVec_xor, BitVec.getLsbD_xor]
theorem bl_m1 : ∀ i, i < 64 → bl (-1) i = true := by decide +kernel
theorem bl_0 (i : Nat) : bl 0 i = false := by simp [bl]
theorem bl_not (x : Int64) {i : Nat} (hi : i < 64) : bl (x ^^^ (-1)) i = !bl x i := by
  rw [bl_xor, bl_m1 i hi]
  simp
theorem bl_zero {x : Int64} : x = 0 ↔ ∀ i, bl x i = false := by
  constructor
  · intro h i; rw [h]; exact bl_0 i
  · intro h; exact bl_ext (fun i _ => by rw [h i, bl_0])
theorem bl_nz {x : Int64} (h : ¬ x = 0) : ∃ i, i < 64 ∧ bl x i = true := by
  refine Classical.byContradiction fun q => h (bl_zero.mpr fun i => ?_)
  cases hb : bl x i with
  | false => rfl
  | true => exact absurd ⟨i, bl_lt hb, hb⟩ q
theorem lsh_nI {n k : Nat} (hk : k < 64) : jv_lshl (lN n) (nI k) = lN (n * 2 ^ k) := wb_shl n hk
theorem bl_one {k i : Nat} (hk : k < 64) (hi : i < 64) : bl (jv_lshl 1 (nI k)) i = decide (i = k) := by
  rw [show (1 : Int64) = lN 1 from rfl, lsh_nI hk, bl_lN, Nat.one_mul, Nat.testBit_two_pow]
  by_cases e : i = k
  · subst e; simp [hi]
  · simp [e, Ne.symm e]
theorem bl_one' {k : Nat} (hk : k < 64) (i : Nat) : bl (jv_lshl 1 (nI k)) i = decide (i = k) := by
  by_cases hi : i < 64
  · exact bl_one hk hi
  · rw [bl_big (by omega)]
    simp; omega
/-- the lowest of a set -/
def lowb (x : Int64) (k : Nat) : Prop := bl x k = true ∧ ∀ i, i < k → bl x i = false
theorem lowb_ex {x : Int64} (h : ¬ x = 0) : ∃ k, k < 64 ∧ lowb x k := by
  obtain ⟨i, hi, hb⟩ := bl_nz h
  obtain ⟨k, hk, h1, h2⟩ := fb_first (p := fun i => bl x i = true) ⟨i, hi, hb⟩
  exact ⟨k, hk, h1, fun j hj => by cases hx : bl x j with | false => rfl | true => exact absurd hx (h2 j hj)⟩
theorem lowb_one {x : Int64} {k j : Nat} (h : lowb x k) (h2 : lowb x j) : k = j := by
  rcases Nat.lt_trichotomy k j with q | q | q
  · have := h.1; rw [h2.2 k q] at this; cases this
  · exact q
  · have := h2.1; rw [h.2 j q] at this; cases this
/-- a number by its lowest bit -/
theorem lw_form : ∀ (n k : Nat), n.testBit k = true → (∀ i, i < k → n.testBit i = false) → ∃ q, n = 2 ^ (k + 1) * q + 2 ^ k := by
  intro n k h1 h2
  refine ⟨n / 2 ^ (k + 1), ?_⟩
  have hm : n % 2 ^ (k + 1) = 2 ^ k := by
    apply Nat.eq_of_testBit_eq
    intro i
    rw [Nat.testBit_mod_two_pow, Nat.testBit_two_pow]
    by_cases e : i = k
    · subst e; simp [h1]
    · by_cases g : i < k
      · rw [h2 i g]; simp; omega
      · have : ¬ i < k + 1 := by omega
        simp [this]; omega
  have := Nat.div_add_mod n (2 ^ (k + 1))
  omega
theorem lw_bits (q k i : Nat) : (2 ^ (k + 1) * q + 2 ^ k).testBit i = (decide (i = k) || (decide (k < i) && q.testBit (i - k - 1))) := by
  rw [Nat.testBit_two_pow_mul_add _ (Nat.pow_lt_pow_right (by decide) (Nat.lt_succ_self k))]
  by_cases g : i < k + 1
  · rw [if_pos g, Nat.testBit_two_pow]
    by_cases e : i = k
    · subst e; simp
    · have : ¬ k < i := by omega
      simp [this, e]; omega
  · rw [if_neg g]
    have h1 : k < i := by omega
    have h2 : ¬ i = k := by omega
    simp [h1, h2, Nat.sub_sub]
theorem lw_pred (q k i : Nat) : (2 ^ (k + 1) * q + 2 ^ k - 1).testBit i = (decide (i < k) || (decide (k < i) && q.testBit (i - k - 1))) := by
  have hp : 0 < 2 ^ k := Nat.two_pow_pos k
  have hlt : 2 ^ k - 1 < 2 ^ (k + 1) := by rw [Nat.pow_succ]; omega
  rw [show 2 ^ (k + 1) * q + 2 ^ k - 1 = 2 ^ (k + 1) * q + (2 ^ k - 1) by omega, Nat.testBit_two_pow_mul_add _ hlt]
  by_cases g : i < k + 1
  · rw [if_pos g, Nat.testBit_two_pow_sub_one]
    by_cases e : i < k
    · simp [e]
    · have : ¬ k < i := by omega
      simp [e, this]
  · rw [if_neg g]
    have h1 : k < i := by omega
    have h2 : ¬ i < k := by omega
    simp [h1, h2, Nat.sub_sub]
theorem lN_pred {n : Nat} (h : 0 < n) : lN n - 1 = lN (n - 1) := lN_sub (b := 1) h
/-- without its lowest -/
theorem bl_drop {x : Int64} {k : Nat} (h : lowb x k) (i : Nat) : bl (x &&& (x - 1)) i = (bl x i && !decide (i = k)) := by
  obtain ⟨n, hn, rfl⟩ := wb_of x
  have hk : k < 64 := bl_lt h.1
  have h1 : n.testBit k = true := by have := h.1; rw [bl_lN] at this; simpa [hk] using this
  have h2 : ∀ i, i < k → n.testBit i = false := fun i hi => by have := h.2 i hi; rw [bl_lN] at this; simpa [show i < 64 by omega] using this
  obtain ⟨q, e⟩ := lw_form n k h1 h2
  have hp : 0 < n := by rw [e]; have := Nat.two_pow_pos k; omega
  rw [bl_and, lN_pred hp, bl_lN, bl_lN, e, lw_bits, lw_pred]
  rcases Nat.lt_trichotomy i k with a | a | a
  · simp [show ¬ i = k by omega, show ¬ k < i by omega]
  · simp [a]
  · simp [show ¬ i = k by omega, a, show ¬ i < k by omega]
theorem lN_neg {n : Nat} (h : n < 2 ^ 64) : -(lN n) = lN (2 ^ 64 - n) := by
  have h1 : lN (2 ^ 64 - n) + lN n = 0 := by
    rw [lN_add, show 2 ^ 64 - n + n = 2 ^ 64 by omega]
    decide
  have h2 : lN (2 ^ 64 - n) = 0 - lN n := by
    rw [← h1]
    simp
  rw [h2]
  simp
theorem bl_lowbit {x : Int64} {k : Nat} (h : lowb x k) : x &&& -x = jv_lshl 1 (nI k) := by
  obtain ⟨n, hn, rfl⟩ := wb_of x
  have hk : k < 64 := bl_lt h.1
  have h1 : n.testBit k = true := by have := h.1; rw [bl_lN] at this; simpa [hk] using this
  have h2 : ∀ i, i < k → n.testBit i = false := fun i hi => by have := h.2 i hi; rw [bl_lN] at this; simpa [show i < 64 by omega] using this
  obtain ⟨q, e⟩ := lw_form n k h1 h2
  have hpk : 2 ^ 64 = 2 ^ (k + 1) * 2 ^ (63 - k) := by rw [← Nat.pow_add]; congr 1; omega
  have hp := Nat.two_pow_pos k
  have hq : q < 2 ^ (63 - k) := by
    refine Nat.lt_of_not_le fun g => ?_
    have : 2 ^ (k + 1) * 2 ^ (63 - k) ≤ 2 ^ (k + 1) * q := Nat.mul_le_mul_left _ g
    omega
  have e2 : 2 ^ 64 - n = 2 ^ (k + 1) * (2 ^ (63 - k) - (q + 1)) + 2 ^ k := by
    rw [Nat.mul_sub, ← hpk, e, Nat.mul_add]
    have : 2 ^ (k + 1) = 2 ^ k + 2 ^ k := by rw [Nat.pow_succ]; omega
    have h3 : 2 ^ (k + 1) * q + 2 ^ (k + 1) * 1 ≤ 2 ^ 64 := by rw [hpk, ← Nat.mul_add]; exact Nat.mul_le_mul_left _ hq
    omega
  apply bl_ext
  intro i hi
  rw [bl_and, lN_neg hn, bl_lN, bl_lN, bl_one hk hi, e2, e, lw_bits, lw_bits]
  by_cases a : i = k
  · simp [a, hk]
  · by_cases b : k < i
    · rw [Nat.testBit_two_pow_sub_succ hq]
      have : i - k - 1 < 63 - k := by omega
      simp [a, b, hi, this]
    · simp [a, b]
theorem ct_below (k : Nat) : ∀ n, fb_ct (fun i => decide (i < k)) n = min k n
  | 0 => by simp [fb_ct]
  | n + 1 => by
    rw [fb_ct_succ, ct_below k n]
    by_cases h : n < k
    · simp [h]; omega
    · simp [h]; omega
theorem bl_lowct {x : Int64} {k : Nat} (h : lowb x k) : fb_ct (bl ((x &&& -x) - 1)) 64 = k := by
  have hk : k < 64 := bl_lt h.1
  rw [bl_lowbit h, show (1 : Int64) = lN 1 from rfl, lsh_nI hk, Nat.one_mul]
  have hp := Nat.two_pow_pos k
  rw [show lN (2 ^ k) - lN 1 = lN (2 ^ k - 1) from lN_sub hp]
  rw [fb_ct_cong (q := fun i => decide (i < k)) (fun i hi => by rw [bl_lN, Nat.testBit_two_pow_sub_one]; simp [hi]), ct_below]
  omega
