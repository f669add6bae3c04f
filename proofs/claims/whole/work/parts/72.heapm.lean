/-! ===== heaps: pure ===== -/
/-- letters in heaps: each in one of k, any two in one heap near -/
def hp_v (n : Nat) (E : Nat → Nat → Bool) (k : Nat) (f : Nat → Nat) : Prop := (∀ a, a < n → f a < k) ∧ ∀ a b, a < n → b < n → a ≠ b → f a = f b → E a b = true
/-- what is laid (of P, by g) can be gone on with -/
def hp_x (n : Nat) (E : Nat → Nat → Bool) (k : Nat) (P : Nat → Bool) (g : Nat → Nat) : Prop := ∃ f, hp_v n E k f ∧ ∀ a, a < n → P a = true → f a = g a
def hp_u (g : Nat → Nat) (a h : Nat) : Nat → Nat := fun x => if x = a then h else g x
def hp_p (P : Nat → Bool) (a : Nat) : Nat → Bool := fun x => P x || decide (x = a)
/-- letter a may go into heap h -/
def hp_f (n : Nat) (E : Nat → Nat → Bool) (P : Nat → Bool) (g : Nat → Nat) (h a : Nat) : Prop := ∀ b, b < n → P b = true → g b = h → E b a = true
/-- what is laid is well laid -/
def hp_w (n : Nat) (E : Nat → Nat → Bool) (u : Nat) (P : Nat → Bool) (g : Nat → Nat) : Prop := (∀ a, a < n → P a = true → g a < u) ∧ ∀ a b, a < n → b < n → P a = true → P b = true → a ≠ b → g a = g b → E a b = true
theorem hp_p_t {P : Nat → Bool} {a x : Nat} : hp_p P a x = true ↔ P x = true ∨ x = a := by unfold hp_p; simp
theorem hp_u_s (g : Nat → Nat) (a h : Nat) : hp_u g a h a = h := if_pos rfl
theorem hp_u_n (g : Nat → Nat) {a h x : Nat} (e : x ≠ a) : hp_u g a h x = g x := if_neg e
section Heaps
variable {n k u : Nat} {E : Nat → Nat → Bool} {P : Nat → Bool} {g : Nat → Nat}
theorem hp_dn {a h : Nat} (hP : P a = false) (hx : hp_x n E k (hp_p P a) (hp_u g a h)) : hp_x n E k P g := by
  obtain ⟨f, hv, hf⟩ := hx
  refine ⟨f, hv, fun x hx px => ?_⟩
  have e : x ≠ a := fun e => by rw [e, hP] at px; cases px
  rw [hf x hx (hp_p_t.mpr (Or.inl px)), hp_u_n _ e]
theorem hp_up {a : Nat} {f : Nat → Nat} (hv : hp_v n E k f) (hf : ∀ x, x < n → P x = true → f x = g x) : hp_x n E k (hp_p P a) (hp_u g a (f a)) := by
  refine ⟨f, hv, fun x hx px => ?_⟩
  by_cases e : x = a
  · rw [e, hp_u_s]
  · rw [hp_u_n _ e]
    exact hf x hx ((hp_p_t.mp px).resolve_right e)
theorem hp_br {a : Nat} (ha : a < n) (hP : P a = false) (hg : ∀ b, b < n → P b = true → g b < u) (hx : hp_x n E k P g) : (∃ h, h < u ∧ h < k ∧ hp_f n E P g h a ∧ hp_x n E k (hp_p P a) (hp_u g a h)) ∨ (u < k ∧ hp_x n E k (hp_p P a) (hp_u g a u)) := by
  obtain ⟨f, hv, hf⟩ := hx
  by_cases c : f a < u
  · refine Or.inl ⟨f a, c, hv.1 a ha, fun b hb pb e => hv.2 b a hb ha (fun z => by rw [z, hP] at pb; cases pb) (by rw [hf b hb pb, e]), hp_up hv hf⟩
  · have hk := hv.1 a ha
    refine Or.inr ⟨by omega, fun x => if f x = f a then u else if f x = u then f a else f x, ⟨fun x hx => ?_, fun x y hx hy hne e => ?_⟩, fun x hx px => ?_⟩
    · have := hv.1 x hx
      dsimp only
      split
      · omega
      · split <;> omega
    · refine hv.2 x y hx hy hne ?_
      dsimp only at e
      split at e
      · split at e
        · omega
        · split at e <;> omega
      · split at e
        · split at e
          · omega
          · split at e <;> omega
        · split at e
          · omega
          · split at e <;> omega
    · dsimp only
      by_cases e : x = a
      · rw [e, if_pos rfl, hp_u_s]
      · have px := (hp_p_t.mp px).resolve_right e
        have h1 := hg x hx px
        have h2 := hf x hx px
        rw [hp_u_n _ e, if_neg (by omega), if_neg (by omega)]
        exact h2
/-- what doesn't fit can't be -/
theorem hp_nf {a h : Nat} (ha : a < n) (hP : P a = false) (hn : ¬ hp_f n E P g h a) : ¬ hp_x n E k (hp_p P a) (hp_u g a h) := by
  rintro ⟨f, hv, hf⟩
  refine hn (fun b hb pb e => ?_)
  have hba : b ≠ a := fun z => by rw [z, hP] at pb; cases pb
  refine hv.2 b a hb ha hba ?_
  rw [hf b hb (hp_p_t.mpr (Or.inl pb)), hf a ha (hp_p_t.mpr (Or.inr rfl)), hp_u_s, hp_u_n _ hba, e]
theorem hp_w_add {a h u' : Nat} (sy : ∀ x y, E x y = true → E y x = true) (hw : hp_w n E u P g) (hh : h < u') (hu : u ≤ u') (hf : hp_f n E P g h a) : hp_w n E u' (hp_p P a) (hp_u g a h) := by
  refine ⟨fun x hx px => ?_, fun x y hx hy px py hne e => ?_⟩
  · by_cases c : x = a
    · rw [c, hp_u_s]; exact hh
    · rw [hp_u_n _ c]
      have := hw.1 x hx ((hp_p_t.mp px).resolve_right c)
      omega
  · by_cases c : x = a
    · have c2 : y ≠ a := fun z => hne (c.trans z.symm)
      rw [c, hp_u_s, hp_u_n _ c2] at e
      rw [c]
      exact sy _ _ (hf y hy ((hp_p_t.mp py).resolve_right c2) e.symm)
    · by_cases c2 : y = a
      · rw [c2, hp_u_s, hp_u_n _ c] at e
        rw [c2]
        exact hf x hx ((hp_p_t.mp px).resolve_right c) e
      · rw [hp_u_n _ c, hp_u_n _ c2] at e
        exact hw.2 x y hx hy ((hp_p_t.mp px).resolve_right c) ((hp_p_t.mp py).resolve_right c2) hne e
theorem hp_all (hw : hp_w n E u P g) (hu : u ≤ k) (hP : ∀ x, x < n → P x = true) : hp_x n E k P g :=
  ⟨g, ⟨fun a ha => Nat.lt_of_lt_of_le (hw.1 a ha (hP a ha)) hu, fun a b ha hb hne e => hw.2 a b ha hb (hP a ha) (hP b hb) hne e⟩, fun _ _ _ => rfl⟩
theorem hp_part (A : Nat → Bool) (f : Nat → Nat) (m : Nat) : ∀ k, fb_ct (fun x => A x && decide (f x < k)) m = fb_sm (fun h => fb_ct (fun x => A x && decide (f x = h)) m) k
  | 0 => fb_ct_zero.mpr (fun x _ => by simp)
  | k + 1 => by
    rw [fb_sm_succ, ← hp_part A f m k, ← fb_ct_or (fun x _ q => by simp at q; omega)]
    refine fb_ct_cong (fun x _ => ?_)
    cases A x with
    | false => rfl
    | true =>
      rw [Bool.true_and, Bool.true_and, Bool.true_and, Bool.eq_iff_iff, Bool.or_eq_true, decide_eq_true_eq, decide_eq_true_eq, decide_eq_true_eq]
      omega
/-- how many are in heap h -/
def hp_c (n : Nat) (P : Nat → Bool) (g : Nat → Nat) (h : Nat) : Nat := fb_ct (fun x => decide (x < n) && P x && decide (g x = h)) 32
/-- no heap has more than w -/
def hp_b (n : Nat) (E : Nat → Nat → Bool) (w : Nat) : Prop := ∀ C : Nat → Bool, (∀ x, C x = true → x < n) → (∀ x y, C x = true → C y = true → x ≠ y → E x y = true) → fb_ct C 32 ≤ w
theorem hp_held {w h : Nat} (hw : hp_w n E u P g) (hb : hp_b n E w) : hp_c n P g h ≤ w := by
  refine hb _ (fun x hx => ?_) (fun x y hx hy hne => ?_)
  · simp at hx; exact hx.1.1
  · simp at hx hy
    exact hw.2 x y hx.1.1 hy.1.1 hx.1.2 hy.1.2 hne (hx.2.trans hy.2.symm)
theorem hp_c_add {a h : Nat} (hn : n ≤ 32) (ha : a < n) (hP : P a = false) (h' : Nat) : hp_c n (hp_p P a) (hp_u g a h) h' = hp_c n P g h' + (if h' = h then 1 else 0) := by
  unfold hp_c
  have hc : fb_ct (fun x => decide (x < n) && hp_p P a x && decide (hp_u g a h x = h')) 32 = fb_ct (fun x => if x = a then decide (h' = h) else decide (x < n) && P x && decide (g x = h')) 32 := fb_ct_cong (fun x _ => by
    by_cases c : x = a
    · rw [if_pos c, c, hp_u_s]
      unfold hp_p
      simp [ha, eq_comm]
    · rw [if_neg c, hp_u_n _ c]
      unfold hp_p
      simp [c])
  have hu := fb_ct_upd (fun x => decide (x < n) && P x && decide (g x = h')) (decide (h' = h)) (i := a) (n := 32) (by omega)
  rw [hc]
  simp [hP] at hu
  rw [hu]
/-- the room that must be -/
theorem hp_room {w : Nat} {L : Nat → Bool} {F : Nat → Nat} (hn : n ≤ 32) (hw : hp_w n E u P g) (hu : u ≤ k) (hb : hp_b n E w) (hL : ∀ x, L x = true ↔ x < n ∧ P x = false) (hF : ∀ h, h < u → ∀ Z : Nat → Bool, (∀ x, Z x = true → L x = true ∧ hp_f n E P g h x) → fb_ct Z 32 ≤ F h) (hx : hp_x n E k P g) :
    fb_ct L 32 ≤ (k - u) * w + fb_sm (fun h => min (w - hp_c n P g h) (F h)) u := by
  obtain ⟨f, hv, hf⟩ := hx
  have e1 : fb_ct L 32 = fb_ct (fun x => L x && decide (f x < k)) 32 := fb_ct_cong (fun x _ => by
    cases c : L x with
    | false => rfl
    | true => simp [hv.1 x ((hL x).mp c).1])
  rw [e1, hp_part, show k = u + (k - u) by omega, fb_sm_split]
  have s1 : fb_sm (fun h => fb_ct (fun x => L x && decide (f x = h)) 32) u ≤ fb_sm (fun h => min (w - hp_c n P g h) (F h)) u := fb_sm_le (fun h hh => by
    have a1 := hF h hh (fun x => L x && decide (f x = h)) (fun x hx => by
      simp at hx
      refine ⟨hx.1, fun b hb' pb e => ?_⟩
      obtain ⟨q1, q2⟩ := (hL x).mp hx.1
      exact hv.2 b x hb' q1 (fun z => by rw [z, q2] at pb; cases pb) (by rw [hf b hb' pb, e, hx.2]))
    have a2 : hp_c n P g h + fb_ct (fun x => L x && decide (f x = h)) 32 ≤ w := by
      unfold hp_c
      rw [← fb_ct_or (fun x _ q => by
        simp at q
        have := ((hL x).mp q.2.1).2
        rw [q.1.1.2] at this; cases this)]
      refine hb _ (fun x hx => ?_) (fun x y hx hy hne => ?_)
      · simp at hx
        rcases hx with z | z
        · exact z.1.1
        · exact ((hL x).mp z.1).1
      · have key : ∀ z, ((decide (z < n) && P z && decide (g z = h)) || (L z && decide (f z = h))) = true → z < n ∧ f z = h := by
          intro z hz
          simp at hz
          rcases hz with q | q
          · exact ⟨q.1.1, by rw [hf z q.1.1 q.1.2, q.2]⟩
          · exact ⟨((hL z).mp q.1).1, q.2⟩
        obtain ⟨x1, x2⟩ := key x hx
        obtain ⟨y1, y2⟩ := key y hy
        exact hv.2 x y x1 y1 hne (x2.trans y2.symm)
    omega)
  have s2 : fb_sm (fun h => fb_ct (fun x => L x && decide (f x = u + h)) 32) (k - u) ≤ (k - u) * w := fb_sm_bound (fun h _ => by
    refine hb _ (fun x hx => ?_) (fun x y hx hy hne => ?_)
    · simp at hx; exact ((hL x).mp hx.1).1
    · simp at hx hy
      exact hv.2 x y ((hL x).mp hx.1).1 ((hL y).mp hy.1).1 hne (hx.2.trans hy.2.symm))
  rw [show u + (k - u) - u = k - u by omega]
  omega
/-- the lonely ones want a heap each -/
theorem hp_lonely {m : Nat} {c : Nat → Nat} (hu : u ≤ k) (hc : ∀ i, i < m → c i < n ∧ ∀ h, h < u → ∃ b, b < n ∧ P b = true ∧ g b = h ∧ E (c i) b = false ∧ c i ≠ b) (hi : ∀ i j, i < j → j < m → c i ≠ c j ∧ E (c i) (c j) = false) (hx : hp_x n E k P g) : u + m ≤ k := by
  obtain ⟨f, hv, hf⟩ := hx
  have h1 : ∀ i, i < m → u ≤ f (c i) ∧ f (c i) < k := fun i hi => by
    obtain ⟨a1, a2⟩ := hc i hi
    refine ⟨Nat.le_of_not_lt fun z => ?_, hv.1 _ a1⟩
    obtain ⟨b, b1, b2, b3, b4, b5⟩ := a2 _ z
    have := hv.2 (c i) b a1 b1 b5 (by rw [hf b b1 b2, b3])
    rw [b4] at this; cases this
  have h2 := fb_holes (k - u) m (fun i => f (c i) - u) (fun i hi => by have := h1 i hi; omega) (fun i j hij hj e => by
    have q1 := h1 i (by omega)
    have q2 := h1 j hj
    obtain ⟨q3, q4⟩ := hi i j hij hj
    have := hv.2 (c i) (c j) (hc i (by omega)).1 (hc j hj).1 q3 (by omega)
    rw [q4] at this; cases this)
  omega
/-- the least row -/
def hp_L (n : Nat) (E : Nat → Nat → Bool) (k : Nat) (r : Nat → Nat) : Prop := hp_v n E k r ∧ ∀ f, hp_v n E k f → ∀ c, c < n → (∀ b, b < c → f b = r b) → r c ≤ f c
theorem hp_L1 {r r' : Nat → Nat} (h : hp_L n E k r) (h' : hp_L n E k r') : ∀ c, c < n → r c = r' c := by
  intro c
  induction c using Nat.strongRecOn with
  | ind c ih =>
    intro hc
    have e : ∀ b, b < c → r b = r' b := fun b hb => ih b hb (by omega)
    exact Nat.le_antisymm (h.2 r' h'.1 c hc (fun b hb => (e b hb).symm)) (h'.2 r h.1 c hc e)
/-- the fewest heaps, from a on -/
def hp_N (n : Nat) (E : Nat → Nat → Bool) (a k : Nat) : Prop := a ≤ k ∧ (∃ f, hp_v n E k f) ∧ ∀ k', a ≤ k' → k' < k → ¬ ∃ f, hp_v n E k' f
theorem hp_N1 {a k' : Nat} (h : hp_N n E a k) (h' : hp_N n E a k') : k = k' := by
  rcases Nat.lt_trichotomy k k' with z | z | z
  · exact absurd h.2.1 (h'.2.2 k h.1 z)
  · exact z
  · exact absurd h'.2.1 (h.2.2 k' h'.1 z)
theorem hp_id : ∃ f, hp_v n E n f := ⟨fun a => a, fun _ ha => ha, fun _ _ _ _ hne e => absurd e hne⟩
theorem hp_N_le {a : Nat} (h : hp_N n E a k) (ha : a ≤ n) : k ≤ n := Nat.le_of_not_lt fun z => h.2.2 n ha z hp_id
theorem hp_x0 (hP : ∀ x, x < n → P x = false) : hp_x n E k P g ↔ ∃ f, hp_v n E k f :=
  ⟨fun ⟨f, hv, _⟩ => ⟨f, hv⟩, fun ⟨f, hv⟩ => ⟨f, hv, fun a ha pa => by rw [hP a ha] at pa; cases pa⟩⟩
end Heaps

