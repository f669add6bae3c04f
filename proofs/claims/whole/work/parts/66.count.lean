/-! ===== how many codes: pure ===== -/
section Cn
variable {N : Nat → Nat → Bool}
theorem cn_y {i m : Nat} {A : Nat → Bool} (h : A i = true) : cn N (i + 1) A (m + 1) = cn N i A (m + 1) + cn N i (mi A (N i)) m := by
  show cn N i A (m + 1) + (if _ then _ else _) = _
  rw [if_pos h]
theorem cn_n {i m : Nat} {A : Nat → Bool} (h : ¬ A i = true) : cn N (i + 1) A m = cn N i A m := by
  show cn N i A m + (if _ then _ else _) = _
  rw [if_neg h]; rfl
theorem cn_0 : ∀ {i : Nat} {A : Nat → Bool}, cn N i A 0 = 1
  | 0, A => rfl
  | i + 1, A => by
    show cn N i A 0 + (if A i = true then 0 else 0) = 1
    rw [cn_0]
    split <;> rfl
theorem cn_ext : ∀ {i m : Nat} {A B : Nat → Bool}, (∀ w, w < i → A w = B w) → cn N i A m = cn N i B m
  | 0, m, A, B, _ => rfl
  | i + 1, 0, A, B, _ => by rw [cn_0, cn_0]
  | i + 1, m + 1, A, B, h => by
    have h1 : cn N i A (m + 1) = cn N i B (m + 1) := cn_ext (fun w hw => h w (by omega))
    have h2 : cn N i (mi A (N i)) m = cn N i (mi B (N i)) m := cn_ext (fun w hw => by unfold mi; rw [h w (by omega)])
    by_cases a : A i = true
    · rw [cn_y a, cn_y (by rw [← h i (by omega)]; exact a), h1, h2]
    · rw [cn_n a, cn_n (by rw [← h i (by omega)]; exact a), h1]
theorem cn_br (sy : ∀ x y, N x y = N y x) (rf : ∀ x, N x x = true) : ∀ {i m : Nat} {A : Nat → Bool} {v : Nat}, v < i → A v = true → cn N i A (m + 1) = cn N i (rm A v) (m + 1) + cn N i (mi A (N v)) m
  | 0, m, A, v, h, _ => by omega
  | i + 1, m, A, v, h, hv => by
    by_cases e : v = i
    · subst e
      rw [cn_y hv, cn_n (A := rm A v) (by rw [rm_t]; simp), cn_n (A := mi A (N v)) (by rw [mi_t, rf]; simp)]
      rw [cn_ext (A := rm A v) (B := A) (fun w hw => by unfold rm; simp [show ¬ w = v by omega])]
    · have ih := @cn_br sy rf i m A v (by omega) hv
      by_cases a : A i = true
      · rw [cn_y a, cn_y (A := rm A v) (by rw [rm_t]; exact ⟨a, fun q => e q.symm⟩)]
        by_cases c : N v i = true
        · rw [cn_n (A := mi A (N v)) (by rw [mi_t, c]; simp)]
          rw [cn_ext (A := mi (rm A v) (N i)) (B := mi A (N i)) (fun w hw => by
            unfold mi rm
            by_cases q : w = v
            · subst q; rw [sy, c]; simp
            · simp [q])]
          omega
        · have c2 : N v i = false := by simpa using c
          cases m with
          | zero =>
            rw [cn_0, cn_0] at *
            rw [cn_0]
            omega
          | succ m =>
            rw [cn_y (A := mi A (N v)) (by rw [mi_t]; exact ⟨a, c2⟩)]
            have ih2 := @cn_br sy rf i m (mi A (N i)) v (by omega) (by rw [mi_t, sy]; exact ⟨hv, c2⟩)
            rw [cn_ext (A := mi (rm A v) (N i)) (B := rm (mi A (N i)) v) (fun w hw => by show (A w && !decide (w = v) && !N i w) = (A w && !N i w && !decide (w = v)); cases A w <;> cases N i w <;> cases decide (w = v) <;> rfl)]
            rw [cn_ext (A := mi (mi A (N v)) (N i)) (B := mi (mi A (N i)) (N v)) (fun w hw => by show (A w && !N v w && !N i w) = (A w && !N i w && !N v w); cases A w <;> cases N i w <;> cases N v w <;> rfl)]
            omega
      · rw [cn_n a, cn_n (A := rm A v) (by rw [rm_t]; exact fun q => a q.1), cn_n (A := mi A (N v)) (by rw [mi_t]; exact fun q => a q.1)]
        exact ih
theorem cn_big : ∀ {i m : Nat} {A : Nat → Bool}, al N i A < m → cn N i A m = 0
  | 0, m, A, h => by
    show (if m = 0 then 1 else 0) = 0
    rw [if_neg (by omega)]
  | i + 1, 0, A, h => by omega
  | i + 1, m + 1, A, h => by
    by_cases a : A i = true
    · rw [al_y a] at h
      rw [cn_y a, cn_big (i := i) (m := m + 1) (A := A) (by omega), cn_big (i := i) (m := m) (A := mi A (N i)) (by omega)]
    · rw [al_n a] at h
      rw [cn_n a]; exact cn_big h
theorem cn_le : ∀ {i m : Nat} {A : Nat → Bool}, cn N i A m ≤ 2 ^ i
  | 0, m, A => by
    show (if m = 0 then 1 else 0) ≤ 1
    split <;> omega
  | i + 1, 0, A => by rw [cn_0]; exact Nat.one_le_two_pow
  | i + 1, m + 1, A => by
    have h1 : cn N i A (m + 1) ≤ 2 ^ i := cn_le
    have h2 : cn N i (mi A (N i)) m ≤ 2 ^ i := cn_le
    have h3 : 2 ^ (i + 1) = 2 ^ i * 2 := Nat.pow_succ 2 i
    by_cases a : A i = true
    · rw [cn_y a]; omega
    · rw [cn_n a]; omega
theorem cn_cut {j m : Nat} {A : Nat → Bool} (h : ∀ w, j ≤ w → A w = false) : ∀ q, cn N (j + q) A m = cn N j A m
  | 0 => rfl
  | q + 1 => by
    rw [← Nat.add_assoc, cn_n (by rw [h _ (by omega)]; decide)]
    exact cn_cut h q
/-- words of which all are taken for one another and for no other -/
def apt (N : Nat → Nat → Bool) (A : Nat → Bool) (v : Nat) : Prop := ∀ u, A u = true → N v u = true → ∀ w, A w = true → N u w = N v w
theorem apt_al (sy : ∀ x y, N x y = N y x) (rf : ∀ x, N x x = true) {A : Nat → Bool} {v : Nat} (hv : v < 64) (av : A v = true) (h : apt N A v) : al N 64 A = 1 + al N 64 (mi A (N v)) := by
  have h1 := al_br sy rf hv av
  have h2 : al N 64 (rm A v) ≤ 1 + al N 64 (mi A (N v)) := al_cl sy (fun x y x1 x2 y1 y2 hn => by
    rw [rm_t] at x1 y1
    have q : ∀ t, A t = true → mi A (N v) t = false → N v t = true := fun t a b => by
      cases c : N v t with
      | true => rfl
      | false => have := mi_t.mpr ⟨a, c⟩; rw [b] at this; cases this
    rw [h x x1.1 (q x x1.1 x2) y y1.1]
    exact q y y1.1 y2)
  omega
theorem apt_cn (sy : ∀ x y, N x y = N y x) (rf : ∀ x, N x x = true) {i : Nat} {A : Nat → Bool} {v m : Nat} (h : apt N A v) : ∀ (c : Nat) (B : Nat → Bool), (∀ w, B w = true → A w = true) → (∀ w, A w = true → N v w = false → B w = true) → fb_ct (fun w => B w && N v w) i = c → cn N i B (m + 1) = cn N i (mi A (N v)) (m + 1) + c * cn N i (mi A (N v)) m
  | 0, B, h1, h2, h3 => by
    rw [Nat.zero_mul, Nat.add_zero]
    refine cn_ext (fun w hw => ?_)
    have := fb_ct_zero.mp h3 w hw
    rw [Bool.eq_iff_iff, mi_t]
    constructor
    · intro z
      rw [z] at this
      exact ⟨h1 w z, by simpa using this⟩
    · exact fun z => h2 w z.1 z.2
  | c + 1, B, h1, h2, h3 => by
    obtain ⟨u, hu, hb⟩ := fb_ct_pos.mp (show 0 < fb_ct (fun w => B w && N v w) i by omega)
    rw [Bool.and_eq_true] at hb
    have au := h1 u hb.1
    rw [cn_br sy rf hu hb.1, apt_cn sy rf h c (rm B u) (fun w hw => h1 w (rm_t.mp hw).1) (fun w a b => rm_t.mpr ⟨h2 w a b, fun e => by rw [e, hb.2] at b; cases b⟩)]
    · rw [cn_ext (A := mi B (N u)) (B := mi A (N v)) (fun w hw => by
        rw [Bool.eq_iff_iff, mi_t, mi_t]
        constructor
        · rintro ⟨a, b⟩
          exact ⟨h1 w a, by rw [← h u au hb.2 w (h1 w a)]; exact b⟩
        · rintro ⟨a, b⟩
          exact ⟨h2 w a b, by rw [h u au hb.2 w a]; exact b⟩)]
      rw [Nat.add_mul]
      omega
    · have := ct_rm (A := fun w => B w && N v w) hu (by simp [hb])
      have e : fb_ct (fun w => rm B u w && N v w) i = fb_ct (rm (fun w => B w && N v w) u) i := fb_ct_cong (fun w _ => by
        show (B w && !decide (w = u) && N v w) = (B w && N v w && !decide (w = u))
        cases B w <;> cases N v w <;> cases decide (w = u) <;> rfl)
      omega
theorem apt_max (sy : ∀ x y, N x y = N y x) (rf : ∀ x, N x x = true) {A : Nat → Bool} {v : Nat} (hv : v < 64) (av : A v = true) (h : apt N A v) : cn N 64 A (al N 64 A) = fb_ct (fun w => A w && N v w) 64 * cn N 64 (mi A (N v)) (al N 64 (mi A (N v))) := by
  have h1 := apt_al sy rf hv av h
  have h2 := apt_cn sy rf (i := 64) (m := al N 64 (mi A (N v))) h _ A (fun _ z => z) (fun _ z _ => z) rfl
  have h3 : cn N 64 (mi A (N v)) (al N 64 (mi A (N v)) + 1) = 0 := cn_big (Nat.lt_succ_self _)
  rw [h3, Nat.zero_add] at h2
  rw [h1, Nat.add_comm]
  exact h2
end Cn

