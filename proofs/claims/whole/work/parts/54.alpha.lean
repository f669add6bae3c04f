/-! ===== largest codes, and how many: pure ===== -/
/-- a set without another, and without one element -/
def mi (A B : Nat → Bool) : Nat → Bool := fun w => A w && !B w
def rm (A : Nat → Bool) (v : Nat) : Nat → Bool := fun w => A w && !decide (w = v)
theorem mi_t {A B : Nat → Bool} {w : Nat} : mi A B w = true ↔ A w = true ∧ B w = false := by unfold mi; simp
theorem rm_t {A : Nat → Bool} {v w : Nat} : rm A v w = true ↔ A w = true ∧ w ≠ v := by unfold rm; simp
/-- the size of a largest code among the elements of A below i -/
def al (N : Nat → Nat → Bool) : Nat → (Nat → Bool) → Nat
  | 0, _ => 0
  | i + 1, A => if A i = true then max (al N i A) (1 + al N i (mi A (N i))) else al N i A
/-- the number of codes of size m among the elements of A below i -/
def cn (N : Nat → Nat → Bool) : Nat → (Nat → Bool) → Nat → Nat
  | 0, _, m => if m = 0 then 1 else 0
  | i + 1, A, m => cn N i A m + (if A i = true then (match m with | 0 => 0 | m' + 1 => cn N i (mi A (N i)) m') else 0)
section Alpha
variable {N : Nat → Nat → Bool}
theorem al_y {i : Nat} {A : Nat → Bool} (h : A i = true) : al N (i + 1) A = max (al N i A) (1 + al N i (mi A (N i))) := by
  show (if _ then _ else _) = _
  rw [if_pos h]
theorem al_n {i : Nat} {A : Nat → Bool} (h : ¬ A i = true) : al N (i + 1) A = al N i A := by
  show (if _ then _ else _) = _
  rw [if_neg h]
theorem al_mono : ∀ {i : Nat} {A B : Nat → Bool}, (∀ w, w < i → A w = true → B w = true) → al N i A ≤ al N i B
  | 0, A, B, _ => Nat.le_refl _
  | i + 1, A, B, h => by
    have h1 : al N i A ≤ al N i B := al_mono (fun w hw => h w (by omega))
    by_cases a : A i = true
    · have b := h i (by omega) a
      have h2 : al N i (mi A (N i)) ≤ al N i (mi B (N i)) := al_mono (fun w hw q => by rw [mi_t] at *; exact ⟨h w (by omega) q.1, q.2⟩)
      rw [al_y a, al_y b]
      omega
    · rw [al_n a]
      by_cases b : B i = true
      · rw [al_y b]; omega
      · rw [al_n b]; exact h1
theorem al_ext {i : Nat} {A B : Nat → Bool} (h : ∀ w, w < i → A w = B w) : al N i A = al N i B :=
  Nat.le_antisymm (al_mono (fun w hw q => by rw [← h w hw]; exact q)) (al_mono (fun w hw q => by rw [h w hw]; exact q))
theorem al_0 : ∀ {i : Nat} {A : Nat → Bool}, (∀ w, w < i → A w = false) → al N i A = 0
  | 0, A, _ => rfl
  | i + 1, A, h => by rw [al_n (by rw [h i (by omega)]; decide)]; exact al_0 (fun w hw => h w (by omega))
theorem al_ct : ∀ {i : Nat} {A : Nat → Bool}, al N i A ≤ fb_ct A i
  | 0, A => Nat.le_refl _
  | i + 1, A => by
    have h1 : al N i A ≤ fb_ct A i := al_ct
    have h2 : al N i (mi A (N i)) ≤ fb_ct A i := Nat.le_trans al_ct (fb_ct_sub (fun k _ q => (mi_t.mp q).1))
    rw [fb_ct_succ]
    by_cases a : A i = true
    · rw [al_y a, if_pos a]; omega
    · rw [al_n a, if_neg a]; omega
theorem al_br (sy : ∀ x y, N x y = N y x) (rf : ∀ x, N x x = true) : ∀ {i : Nat} {A : Nat → Bool} {v : Nat}, v < i → A v = true → al N i A = max (al N i (rm A v)) (1 + al N i (mi A (N v)))
  | 0, A, v, h, _ => by omega
  | i + 1, A, v, h, hv => by
    by_cases e : v = i
    · subst e
      rw [al_y hv, al_n (A := rm A v) (by rw [rm_t]; simp), al_n (A := mi A (N v)) (by rw [mi_t, rf]; simp)]
      rw [al_ext (A := rm A v) (B := A) (fun w hw => by unfold rm; simp [show ¬ w = v by omega])]
    · have ih := @al_br sy rf i A v (by omega) hv
      by_cases a : A i = true
      · rw [al_y a, al_y (A := rm A v) (by rw [rm_t]; exact ⟨a, fun q => e q.symm⟩)]
        by_cases c : N v i = true
        · rw [al_n (A := mi A (N v)) (by rw [mi_t, c]; simp)]
          rw [al_ext (A := mi (rm A v) (N i)) (B := mi A (N i)) (fun w hw => by
            unfold mi rm
            by_cases q : w = v
            · subst q; rw [sy, c]; simp
            · simp [q])]
          omega
        · have c2 : N v i = false := by simpa using c
          rw [al_y (A := mi A (N v)) (by rw [mi_t]; exact ⟨a, c2⟩)]
          have ih2 := @al_br sy rf i (mi A (N i)) v (by omega) (by rw [mi_t, sy]; exact ⟨hv, c2⟩)
          rw [al_ext (A := mi (rm A v) (N i)) (B := rm (mi A (N i)) v) (fun w hw => by show (A w && !decide (w = v) && !N i w) = (A w && !N i w && !decide (w = v)); cases A w <;> cases N i w <;> cases decide (w = v) <;> rfl)]
          rw [al_ext (A := mi (mi A (N v)) (N i)) (B := mi (mi A (N i)) (N v)) (fun w hw => by show (A w && !N v w && !N i w) = (A w && !N i w && !N v w); cases A w <;> cases N i w <;> cases N v w <;> rfl)]
          omega
      · rw [al_n a, al_n (A := rm A v) (by rw [rm_t]; exact fun q => a q.1), al_n (A := mi A (N v)) (by rw [mi_t]; exact fun q => a q.1)]
        exact ih
/-- what a clique adds -/
theorem al_cl (sy : ∀ x y, N x y = N y x) : ∀ {i : Nat} {A B : Nat → Bool}, (∀ x y, A x = true → B x = false → A y = true → B y = false → x ≠ y → N x y = true) → al N i A ≤ 1 + al N i B
  | 0, A, B, _ => Nat.zero_le _
  | i + 1, A, B, h => by
    have h1 : al N i A ≤ 1 + al N i B := al_cl sy h
    by_cases a : A i = true
    · rw [al_y a]
      by_cases b : B i = true
      · have h2 : al N i (mi A (N i)) ≤ 1 + al N i (mi B (N i)) := al_cl sy (fun x y x1 x2 y1 y2 hn => by
          rw [mi_t] at x1 y1
          refine h x y x1.1 ?_ y1.1 ?_ hn
          · cases q : B x with
            | false => rfl
            | true => have : mi B (N i) x = true := mi_t.mpr ⟨q, x1.2⟩; rw [x2] at this; cases this
          · cases q : B y with
            | false => rfl
            | true => have : mi B (N i) y = true := mi_t.mpr ⟨q, y1.2⟩; rw [y2] at this; cases this)
        rw [al_y b]
        omega
      · have b2 : B i = false := by simpa using b
        have h2 : al N i (mi A (N i)) ≤ al N i B := al_mono (fun w hw q => by
          rw [mi_t] at q
          cases c : B w with
          | true => rfl
          | false => have := h i w a b2 q.1 c (by omega); rw [q.2] at this; cases this)
        rw [al_n b]
        omega
    · rw [al_n a]
      by_cases b : B i = true
      · rw [al_y b]; omega
      · rw [al_n b]; exact h1
/-- a code -/
def ind (N : Nat → Nat → Bool) (S : Nat → Bool) : Prop := ∀ x y, S x = true → S y = true → x ≠ y → N x y = false
theorem al_ind : ∀ {i : Nat} {S : Nat → Bool}, ind N S → al N i S = fb_ct S i
  | 0, S, _ => rfl
  | i + 1, S, h => by
    have h1 : al N i S = fb_ct S i := al_ind h
    rw [fb_ct_succ]
    by_cases a : S i = true
    · rw [al_y a, if_pos a, h1]
      rw [al_ext (A := mi S (N i)) (B := S) (fun w hw => by
        unfold mi
        cases c : S w with
        | false => rfl
        | true => rw [h i w a c (by omega)]; rfl), h1]
      omega
    · rw [al_n a, if_neg a, h1]; rfl
/-- a word that another can stand for -/
theorem al_dom (sy : ∀ x y, N x y = N y x) (rf : ∀ x, N x x = true) {i : Nat} {A : Nat → Bool} {v u : Nat} (hv : v < i) (av : A v = true) (hu : u < i) (au : A u = true) (uv : u ≠ v) (h : ∀ w, A w = true → N u w = true → N v w = true) : al N i A = al N i (rm A v) := by
  rw [al_br sy rf hv av]
  have h1 := al_br sy rf (A := rm A v) hu (by rw [rm_t]; exact ⟨au, uv⟩)
  have h2 : al N i (mi A (N v)) ≤ al N i (mi (rm A v) (N u)) := al_mono (fun w hw q => by
    rw [mi_t] at q
    rw [mi_t, rm_t]
    refine ⟨⟨q.1, fun e => ?_⟩, ?_⟩
    · rw [e, rf] at q; cases q.2
    · cases c : N u w with
      | false => rfl
      | true => have := h w q.1 c; rw [q.2] at this; cases this)
  omega
/-- a word with at most one other near it is in a largest code -/
theorem al_leaf (sy : ∀ x y, N x y = N y x) (rf : ∀ x, N x x = true) {i : Nat} {A : Nat → Bool} {v : Nat} (hv : v < i) (av : A v = true) (h : ∀ x y, x < i → y < i → A x = true → A y = true → x ≠ v → y ≠ v → N v x = true → N v y = true → x = y) : al N i A = 1 + al N i (mi A (N v)) := by
  have h1 := al_br sy rf hv av
  have h2 : al N i (rm A v) ≤ 1 + al N i (mi A (N v)) := by
    refine Nat.le_trans ?_ (al_cl sy (i := i) (A := fun w => rm A v w && decide (w < i)) (B := mi A (N v)) ?_)
    · exact Nat.le_of_eq (al_ext (fun w hw => by simp [hw]))
    · intro x y x1 x2 y1 y2 hn
      simp only [Bool.and_eq_true, decide_eq_true_eq, rm_t] at x1 y1
      have x3 : N v x = true := by
        cases c : N v x with
        | true => rfl
        | false => have : mi A (N v) x = true := mi_t.mpr ⟨x1.1.1, c⟩; rw [x2] at this; cases this
      have y3 : N v y = true := by
        cases c : N v y with
        | true => rfl
        | false => have : mi A (N v) y = true := mi_t.mpr ⟨y1.1.1, c⟩; rw [y2] at this; cases this
      exact absurd (h x y x1.2 y1.2 x1.1.1 y1.1.1 x1.1.2 y1.1.2 x3 y3) hn
  omega
end Alpha

