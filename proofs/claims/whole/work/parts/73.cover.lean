/-! ===== the class's search for heaps: pure ===== -/
theorem ct24 {p : Nat → Bool} (h : ∀ x, p x = true → x < 24) : fb_ct p 32 ≤ 24 := by
  have h1 : fb_ct p 32 = fb_ct p 24 + fb_ct (fun k => p (24 + k)) 8 := fb_ct_split p 24 8
  have h2 : fb_ct (fun k => p (24 + k)) 8 = 0 := fb_ct_zero.mpr (fun k _ => by
    cases c : p (24 + k) with
    | false => rfl
    | true => have := h _ c; omega)
  have h3 := fb_ct_le p 24
  omega
theorem nI_min (a b : Nat) (ha : a < 2 ^ 31) (hb : b < 2 ^ 31) : (if nI b < nI a then nI b else nI a) = nI (min a b) := by
  by_cases h : b < a
  · rw [if_pos (nI_lt h ha), Nat.min_eq_right (by omega)]
  · rw [if_neg (nI_nlt (by omega) hb), Nat.min_eq_left (by omega)]
theorem nI_max (a b : Nat) (ha : a < 2 ^ 31) (hb : b < 2 ^ 31) : (if nI a < nI b then nI b else nI a) = nI (max a b) := by
  by_cases h : a < b
  · rw [if_pos (nI_lt h hb), Nat.max_eq_right (by omega)]
  · rw [if_neg (nI_nlt (by omega) ha), Nat.max_eq_left (by omega)]
theorem hp_f_add {n : Nat} {E : Nat → Nat → Bool} {P : Nat → Bool} {g : Nat → Nat} {a h h' x : Nat} (ha : a < n) (hP : P a = false) : hp_f n E (hp_p P a) (hp_u g a h) h' x ↔ hp_f n E P g h' x ∧ (h' = h → E a x = true) := by
  constructor
  · intro z
    refine ⟨fun b hb pb e => ?_, fun e => z a ha (hp_p_t.mpr (Or.inr rfl)) (by rw [hp_u_s, e])⟩
    have hba : b ≠ a := fun y => by rw [y, hP] at pb; cases pb
    exact z b hb (hp_p_t.mpr (Or.inl pb)) (by rw [hp_u_n _ hba, e])
  · rintro ⟨z1, z2⟩ b hb pb e
    by_cases c : b = a
    · rw [c, hp_u_s] at e
      rw [c]
      exact z2 e.symm
    · rw [hp_u_n _ c] at e
      exact z1 b hb ((hp_p_t.mp pb).resolve_right c) e
theorem hp_p_lt (a : Nat) : hp_p (ltW a) a = ltW (a + 1) := funext fun x => by
  unfold hp_p ltW
  rw [Bool.eq_iff_iff, Bool.or_eq_true, decide_eq_true_eq, decide_eq_true_eq, decide_eq_true_eq]
  omega
theorem hp_u_self (g : Nat → Nat) (a : Nat) : hp_u g a (g a) = g := funext fun x => by
  unfold hp_u
  split
  · rename_i h; rw [h]
  · rfl
theorem ltW_t {a x : Nat} : ltW a x = true ↔ x < a := by unfold ltW; simp
theorem ltW_f {a x : Nat} : ltW a x = false ↔ ¬ x < a := by unfold ltW; simp
theorem ubit (x : Int32) {a : Nat} (ha : a < 32) : (jv_ushr x (nI a) &&& 1 = 0) ↔ bt x a = false := by
  have := bt1_iff x ha
  unfold bt1 at this
  cases c : bt x a with
  | false => rw [c] at this; exact ⟨fun _ => rfl, fun _ => Classical.byContradiction fun z => by have := this.mp z; cases this⟩
  | true => rw [c] at this; exact ⟨fun z => absurd z (this.mpr rfl), fun z => by cases z⟩
theorem ubit_t (x : Int32) {a : Nat} (ha : a < 32) (h : ¬ jv_ushr x (nI a) &&& 1 = 0) : bt x a = true := ts_nf (fun z => h ((ubit x ha).mpr z))
theorem bt_off (x : Int32) {v : Nat} (hv : v < 32) (i : Nat) : bt (x &&& (((1 : Int32) <<< (nI v &&& 31)) ^^^ (-1))) i = rm (bt x) v i := by
  unfold rm
  by_cases hi : i < 32
  · rw [b_and, b_xor, b_m1 i hi, b_bit hv hi, Bool.xor_true]
  · rw [b_big (by omega), b_big (by omega)]; rfl
theorem bt_on (x : Int32) {v : Nat} (hv : v < 32) (i : Nat) : bt (x ||| ((1 : Int32) <<< (nI v &&& 31))) i = hp_p (bt x) v i := by
  unfold hp_p
  by_cases hi : i < 32
  · rw [b_or, b_bit hv hi]
  · rw [b_big (by omega), b_big (by omega)]
    have : i ≠ v := by omega
    simp [this]
theorem bt_bit {v : Nat} (hv : v < 32) (i : Nat) : bt ((1 : Int32) <<< (nI v &&& 31)) i = decide (i = v) := by
  by_cases hi : i < 32
  · exact b_bit hv hi
  · rw [b_big (by omega)]
    have : i ≠ v := by omega
    simp [this]
theorem bt_not (x y : Int32) (i : Nat) : bt (x &&& (y ^^^ (-1))) i = (bt x i && !bt y i) := by
  by_cases hi : i < 32
  · rw [b_and, b_xor, b_m1 i hi, Bool.xor_true]
  · rw [b_big (by omega), b_big (by omega)]; rfl
theorem bt_lt {x : Int32} {i : Nat} (h : bt x i = true) : i < 32 := Nat.lt_of_not_le fun z => by rw [b_big z] at h; cases h
theorem bt_nz {x : Int32} (h : ¬ x = 0) : ∃ i, i < 32 ∧ bt x i = true := Classical.byContradiction fun z => h (b_ext (fun i hi => by
  rw [b_0]
  cases c : bt x i with
  | false => rfl
  | true => exact absurd ⟨i, hi, c⟩ z))
theorem allI {n : Nat} (hn : n ≤ 24) (x : Nat) : bt (((1 : Int32) <<< (nI n &&& 31)) - 1) x = decide (x < n) := by
  have hp : 2 ^ n ≤ 2 ^ 24 := Nat.pow_le_pow_right (by decide) hn
  have h1 : 1 ≤ 2 ^ n := Nat.two_pow_pos n
  rw [shl1 (by omega), show nI (2 ^ n) - 1 = nI (2 ^ n - 1) from pk_sub (b := 1) h1, bt_nI, Nat.testBit_two_pow_sub_one]
  by_cases hx : x < n
  · simp [hx]; omega
  · simp [hx]
theorem CL_of {l n : Nat} {kd ag : Int32} {E : Nat → Nat → Bool} {sg : Nat → Int32} {rw : Nat → Nat → Int32} {I I' : zz_I} (h : ∀ c, 26 < c → c < 259 → I' c = I c) (hl : l < 8) (hc : CL I l n kd ag E sg rw) : CL I' l n kd ag E sg rw := by
  have hL8 : 26 < LN l ∧ LN l + 28 < 259 := by unfold LN; omega
  refine ⟨?_, ?_, ?_, fun a ha b hb => ?_, fun a ha => ?_, fun a ha i hi => ?_⟩
  · rw [h _ (by omega) (by omega)]; exact hc.1
  · rw [h _ (by omega) (by omega)]; exact hc.2.1
  · rw [h _ (by omega) (by omega)]; exact hc.2.2.1
  · rw [h _ (by omega) (by omega)]; exact hc.2.2.2.1 a ha b hb
  · rw [h _ (by omega) (by omega)]; exact hc.2.2.2.2.1 a ha
  · rw [h _ (by omega) (by omega)]; exact hc.2.2.2.2.2 a ha i hi
/-! what can go in so many heaps -/
def kc (D : Nat → Nat → Prop) (S : Nat → Bool) (m : Nat) : Prop := ∃ c : Nat → Nat, (∀ x, S x = true → c x < m) ∧ ∀ x y, S x = true → S y = true → x ≠ y → c x = c y → D x y
/-- what is of S and not of H -/
def df (S H : Nat → Bool) : Nat → Bool := fun x => S x && !H x
theorem df_t {S H : Nat → Bool} {x : Nat} : df S H x = true ↔ S x = true ∧ H x = false := by unfold df; simp
theorem df_p (S H : Nat → Bool) (a : Nat) : df S (hp_p H a) = rm (df S H) a := funext fun x => by
  show (S x && !(H x || decide (x = a))) = ((S x && !H x) && !decide (x = a))
  cases S x <;> cases H x <;> cases decide (x = a) <;> rfl
/-- any two near -/
def kq (D : Nat → Nat → Prop) (H : Nat → Bool) : Prop := ∀ x y, H x = true → H y = true → x ≠ y → D x y
/-- a heap to which none of S can be added -/
def kx (D : Nat → Nat → Prop) (S H : Nat → Bool) : Prop := (∀ x, H x = true → S x = true) ∧ kq D H ∧ ∀ x, S x = true → ¬ ∀ y, H y = true → D x y
theorem ct_one {C : Nat → Bool} {n : Nat} (h : ∀ x y, C x = true → C y = true → x = y) : fb_ct C n ≤ 1 := by
  refine Nat.le_of_not_lt fun z => ?_
  obtain ⟨i, _, i2, i3⟩ := fb_ct_kth (p := C) (k := 0) (n := n) (by omega)
  obtain ⟨j, _, j2, j3⟩ := fb_ct_kth (p := C) (k := 1) (n := n) (by omega)
  rw [h i j i2 j2] at i3
  omega
section Kc
variable {D : Nat → Nat → Prop} {S T H : Nat → Bool} {m w : Nat}
theorem kc_sub (h : ∀ x, T x = true → S x = true) (hk : kc D S m) : kc D T m := by
  obtain ⟨c, c1, c2⟩ := hk
  exact ⟨c, fun x hx => c1 x (h x hx), fun x y hx hy => c2 x y (h x hx) (h y hy)⟩
theorem kc_mono {m' : Nat} (h : m ≤ m') (hk : kc D S m) : kc D S m' := by
  obtain ⟨c, c1, c2⟩ := hk
  exact ⟨c, fun x hx => Nat.lt_of_lt_of_le (c1 x hx) h, c2⟩
theorem kc_nil (h : ∀ x, S x = false) : kc D S m := by
  refine ⟨fun _ => 0, fun x hx => ?_, fun x y hx => ?_⟩
  · rw [h x] at hx; cases hx
  · rw [h x] at hx; cases hx
theorem kc_up (hq : kq D H) (hk : kc D (df S H) m) : kc D S (m + 1) := by
  obtain ⟨c, c1, c2⟩ := hk
  refine ⟨fun x => if H x = true then m else c x, fun x hx => ?_, fun x y hx hy hne e => ?_⟩
  · dsimp only
    split
    · omega
    · rename_i hh
      have := c1 x (df_t.mpr ⟨hx, ts_nt hh⟩)
      omega
  · dsimp only at e
    by_cases h1 : H x = true
    · by_cases h2 : H y = true
      · exact hq x y h1 h2 hne
      · rw [if_pos h1, if_neg h2] at e
        have := c1 y (df_t.mpr ⟨hy, ts_nt h2⟩)
        omega
    · by_cases h2 : H y = true
      · rw [if_neg h1, if_pos h2] at e
        have := c1 x (df_t.mpr ⟨hx, ts_nt h1⟩)
        omega
      · rw [if_neg h1, if_neg h2] at e
        exact c2 x y (df_t.mpr ⟨hx, ts_nt h1⟩) (df_t.mpr ⟨hy, ts_nt h2⟩) hne e
theorem kc_dn {a : Nat} (ha : S a = true) (hk : kc D S (m + 1)) : ∃ H : Nat → Bool, H a = true ∧ (∀ x, H x = true → S x = true) ∧ kq D H ∧ kc D (df S H) m := by
  obtain ⟨c, c1, c2⟩ := hk
  have key : ∀ x, df S (fun x => S x && decide (c x = c a)) x = true → S x = true ∧ ¬ c x = c a := fun x hx => by
    obtain ⟨h1, h2⟩ := df_t.mp hx
    rw [h1, Bool.true_and, decide_eq_false_iff_not] at h2
    exact ⟨h1, h2⟩
  have ca := c1 a ha
  refine ⟨fun x => S x && decide (c x = c a), by simp [ha], fun x hx => ?_, fun x y hx hy hne => ?_, fun x => if c x = m then c a else c x, fun x hx => ?_, fun x y hx hy hne e => ?_⟩
  · simp at hx; exact hx.1
  · simp at hx hy
    exact c2 x y hx.1 hy.1 hne (hx.2.trans hy.2.symm)
  · obtain ⟨h1, h2⟩ := key x hx
    have := c1 x h1
    dsimp only
    split <;> omega
  · obtain ⟨h1, h2⟩ := key x hx
    obtain ⟨h3, h4⟩ := key y hy
    refine c2 x y h1 h3 hne ?_
    dsimp only at e
    by_cases z1 : c x = m
    · by_cases z2 : c y = m
      · omega
      · rw [if_pos z1, if_neg z2] at e; omega
    · by_cases z2 : c y = m
      · rw [if_neg z1, if_pos z2] at e; omega
      · rw [if_neg z1, if_neg z2] at e; exact e
theorem kx_ex (hS : ∀ x, S x = true → x < 32) (ir : ∀ x, ¬ D x x) (sy : ∀ x y, D x y → D y x) : ∀ (k : Nat) (H : Nat → Bool), fb_ct (df S H) 32 ≤ k → (∀ x, H x = true → S x = true) → kq D H → ∃ H' : Nat → Bool, (∀ x, H x = true → H' x = true) ∧ kx D S H' := by
  intro k
  induction k with
  | zero =>
    intro H hk h1 h2
    refine ⟨H, fun _ h => h, h1, h2, fun x hx hd => ?_⟩
    have hz := fb_ct_zero.mp (Nat.le_zero.mp hk) x (hS x hx)
    cases hh : H x with
    | true => exact ir x (hd x hh)
    | false => rw [df_t.mpr ⟨hx, hh⟩] at hz; cases hz
  | succ k ih =>
    intro H hk h1 h2
    by_cases c : ∃ x, S x = true ∧ ∀ y, H y = true → D x y
    · obtain ⟨x, hx, hd⟩ := c
      have hh : H x = false := ts_nt (fun z => ir x (hd x z))
      have b1 : fb_ct (df S (hp_p H x)) 32 ≤ k := by
        rw [df_p]
        have := ct_rm (hS x hx) (df_t.mpr ⟨hx, hh⟩)
        omega
      have b2 : ∀ y, hp_p H x y = true → S y = true := fun y hy => (hp_p_t.mp hy).elim (h1 y) (fun z => by rw [z]; exact hx)
      have b3 : kq D (hp_p H x) := fun y z hy hz hne => by
        rcases hp_p_t.mp hy with p | p
        · rcases hp_p_t.mp hz with q | q
          · exact h2 y z p q hne
          · rw [q]; exact sy _ _ (hd y p)
        · rcases hp_p_t.mp hz with q | q
          · rw [p]; exact hd z q
          · exact absurd (p.trans q.symm) hne
      obtain ⟨H', a1, a2⟩ := ih (hp_p H x) b1 b2 b3
      exact ⟨H', fun y hy => a1 y (hp_p_t.mpr (Or.inl hy)), a2⟩
    · exact ⟨H, fun _ h => h, h1, h2, fun x hx hd => c ⟨x, hx, hd⟩⟩
theorem kc_pick {a : Nat} (hS : ∀ x, S x = true → x < 32) (ir : ∀ x, ¬ D x x) (sy : ∀ x y, D x y → D y x) (ha : S a = true) (hk : kc D S (m + 1)) : ∃ H : Nat → Bool, H a = true ∧ kx D S H ∧ kc D (df S H) m := by
  obtain ⟨H, h1, h2, h3, h4⟩ := kc_dn ha hk
  obtain ⟨H', a1, a2⟩ := kx_ex hS ir sy _ H (Nat.le_refl _) h2 h3
  refine ⟨H', a1 a h1, a2, kc_sub (fun x hx => ?_) h4⟩
  obtain ⟨y1, y2⟩ := df_t.mp hx
  exact df_t.mpr ⟨y1, ts_nt (fun z => by rw [a1 x z] at y2; cases y2)⟩
theorem kc_wide (hw : ∀ C : Nat → Bool, (∀ x, C x = true → S x = true) → kq D C → fb_ct C 32 ≤ w) (hk : kc D S m) : fb_ct S 32 ≤ m * w := by
  obtain ⟨c, c1, c2⟩ := hk
  have e1 : fb_ct S 32 = fb_ct (fun x => S x && decide (c x < m)) 32 := fb_ct_cong (fun x _ => by
    cases h : S x with
    | false => rfl
    | true => simp [c1 x h])
  rw [e1, hp_part]
  refine fb_sm_bound (fun q _ => hw _ (fun x hx => ?_) (fun x y hx hy hne => ?_))
  · simp at hx; exact hx.1
  · simp at hx hy
    exact c2 x y hx.1 hy.1 hne (hx.2.trans hy.2.symm)
theorem kc_apart {X : Nat → Bool} (hX : ∀ x, X x = true → S x = true) (hd : ∀ x y, X x = true → X y = true → x ≠ y → ¬ D x y) (hk : kc D S m) : fb_ct X 32 ≤ m := by
  have := kc_wide (w := 1) (fun C h1 h2 => ct_one (fun x y hx hy => Classical.byContradiction fun z => hd x y (h1 x hx) (h1 y hy) z (h2 x y hx hy z))) (kc_sub hX hk)
  omega
theorem kc_easy {a : Nat} {N : Nat → Bool} (sy : ∀ x y, D x y → D y x) (hN32 : ∀ x, N x = true → x < 32) (hN : ∀ x, S x = true → ¬ D a x → N x = true) (hNa : N a = true) (hc : fb_ct N 32 ≤ m) (hk : kc D (rm S a) m) : kc D S m := by
  obtain ⟨c, c1, c2⟩ := hk
  have h1 := ct_rm (A := N) (hN32 a hNa) hNa
  have h2 : ∃ q, q < m ∧ ∀ x, rm N a x = true → c x ≠ q := Classical.byContradiction fun z => by
    have h3 : fb_sm (fun _ => 1) m ≤ fb_sm (fun q => fb_ct (fun x => rm N a x && decide (c x = q)) 32) m := fb_sm_le (fun q hq => Nat.le_of_not_lt fun y => z ⟨q, hq, fun x hx e => by
      have y0 := fb_ct_zero.mp (Nat.lt_one_iff.mp y) x (hN32 x (rm_t.mp hx).1)
      rw [hx, e] at y0
      simp at y0⟩)
    rw [fb_sm_const, ← hp_part] at h3
    have h4 : fb_ct (fun x => rm N a x && decide (c x < m)) 32 ≤ fb_ct (rm N a) 32 := fb_ct_sub (fun x _ hx => by simp at hx; exact hx.1)
    omega
  obtain ⟨q, hq, hqx⟩ := h2
  refine ⟨hp_u c a q, fun x hx => ?_, fun x y hx hy hne e => ?_⟩
  · by_cases ex : x = a
    · rw [ex, hp_u_s]; exact hq
    · rw [hp_u_n _ ex]; exact c1 x (rm_t.mpr ⟨hx, ex⟩)
  · by_cases ex : x = a
    · have ey : y ≠ a := fun z => hne (ex.trans z.symm)
      rw [ex, hp_u_s, hp_u_n _ ey] at e
      rw [ex]
      exact Classical.byContradiction fun z => hqx y (rm_t.mpr ⟨hN y hy z, ey⟩) e.symm
    · by_cases ey : y = a
      · rw [ey, hp_u_s, hp_u_n _ ex] at e
        rw [ey]
        exact sy _ _ (Classical.byContradiction fun z => hqx x (rm_t.mpr ⟨hN x hx z, ex⟩) e)
      · rw [hp_u_n _ ex, hp_u_n _ ey] at e
        exact c2 x y (rm_t.mpr ⟨hx, ex⟩) (rm_t.mpr ⟨hy, ey⟩) hne e
end Kc
/-! the heaps begun are each as one letter -/
def kf (n : Nat) (E : Nat → Nat → Bool) (P : Nat → Bool) (g : Nat → Nat) (u : Nat) (fr : Nat → Nat) (x y : Nat) : Prop := (x < n ∧ P x = false ∧ y < n ∧ P y = false ∧ E x y = true) ∨ (x < n ∧ P x = false ∧ ∃ h, h < u ∧ fr h = y ∧ hp_f n E P g h x) ∨ (y < n ∧ P y = false ∧ ∃ h, h < u ∧ fr h = x ∧ hp_f n E P g h y)
/-- the first letters of the heaps begun -/
def kr (n : Nat) (P : Nat → Bool) (g : Nat → Nat) (u : Nat) (fr : Nat → Nat) : Prop := ∀ h, h < u → fr h < n ∧ P (fr h) = true ∧ g (fr h) = h
section Kf
variable {n k u w : Nat} {E : Nat → Nat → Bool} {P : Nat → Bool} {g fr : Nat → Nat} {A : Nat → Bool}
theorem kf_sy (hE : wfE n E) (x y : Nat) (h : kf n E P g u fr x y) : kf n E P g u fr y x := by
  rcases h with ⟨a1, a2, a3, a4, a5⟩ | h | h
  · exact Or.inl ⟨a3, a4, a1, a2, (hE x y a5).2.2.2⟩
  · exact Or.inr (Or.inr h)
  · exact Or.inr (Or.inl h)
theorem kf_ir (hE : wfE n E) (hr : kr n P g u fr) (x : Nat) : ¬ kf n E P g u fr x x := by
  rintro (⟨a1, a2, a3, a4, a5⟩ | ⟨a1, a2, h, h1, h2, -⟩ | ⟨a1, a2, h, h1, h2, -⟩)
  · exact (hE x x a5).2.2.1 rfl
  · have := (hr h h1).2.1
    rw [h2, a2] at this; cases this
  · have := (hr h h1).2.1
    rw [h2, a2] at this; cases this
theorem kf_E (hE : wfE n E) (hr : kr n P g u fr) {x y : Nat} (h : kf n E P g u fr x y) : E x y = true := by
  rcases h with ⟨a1, a2, a3, a4, a5⟩ | ⟨a1, a2, h, h1, h2, h3⟩ | ⟨a1, a2, h, h1, h2, h3⟩
  · exact a5
  · obtain ⟨r1, r2, r3⟩ := hr h h1
    have := h3 (fr h) r1 r2 r3
    rw [h2] at this
    exact (hE y x this).2.2.2
  · obtain ⟨r1, r2, r3⟩ := hr h h1
    have := h3 (fr h) r1 r2 r3
    rw [h2] at this
    exact this
theorem kf_b (hE : wfE n E) (hr : kr n P g u fr) (hA : ∀ x, A x = true → x < n) (hb : hp_b n E w) (C : Nat → Bool) (h1 : ∀ x, C x = true → A x = true) (h2 : kq (kf n E P g u fr) C) : fb_ct C 32 ≤ w := hb C (fun x hx => hA x (h1 x hx)) (fun x y hx hy hne => kf_E hE hr (h2 x y hx hy hne))
/-- two first letters are apart -/
theorem kf_ff (hr : kr n P g u fr) {h h' : Nat} (hh : h < u) (hh' : h' < u) : ¬ kf n E P g u fr (fr h) (fr h') := by
  have p1 := (hr h hh).2.1
  have p2 := (hr h' hh').2.1
  rintro (⟨a1, a2, -⟩ | ⟨a1, a2, -⟩ | ⟨a1, a2, -⟩)
  · rw [p1] at a2; cases a2
  · rw [p1] at a2; cases a2
  · rw [p2] at a2; cases a2
/-- the heaps begun have their own numbers -/
theorem kf_lay (hA : ∀ x, A x = true ↔ (x < n ∧ P x = false) ∨ ∃ h, h < u ∧ fr h = x) (hr : kr n P g u fr) (hu : u ≤ k) (hk : kc (kf n E P g u fr) A k) : ∀ i, i ≤ u → ∃ c : Nat → Nat, ((∀ x, A x = true → c x < k) ∧ ∀ x y, A x = true → A y = true → x ≠ y → c x = c y → kf n E P g u fr x y) ∧ ∀ h, h < i → c (fr h) = h := by
  intro i
  induction i with
  | zero =>
    intro _
    obtain ⟨c, c1, c2⟩ := hk
    exact ⟨c, ⟨c1, c2⟩, fun h hh => absurd hh (Nat.not_lt_zero h)⟩
  | succ i ih =>
    intro hi
    obtain ⟨c, ⟨c1, c2⟩, c3⟩ := ih (by omega)
    have af : ∀ h, h < u → A (fr h) = true := fun h hh => (hA _).mpr (Or.inr ⟨h, hh, rfl⟩)
    have hj : ∀ h, h < i → c (fr i) ≠ h := fun h hh e => by
      have hne : fr i ≠ fr h := fun z => by
        have e1 := (hr i (by omega)).2.2
        rw [z, (hr h (by omega)).2.2] at e1
        omega
      exact kf_ff hr (show i < u by omega) (show h < u by omega) (c2 _ _ (af i (by omega)) (af h (by omega)) hne (by rw [e, c3 h hh]))
    have ci := c1 _ (af i (by omega))
    refine ⟨fun x => if c x = c (fr i) then i else if c x = i then c (fr i) else c x, ⟨fun x hx => ?_, fun x y hx hy hne e => ?_⟩, fun h hh => ?_⟩
    · have := c1 x hx
      dsimp only
      split
      · omega
      · split <;> omega
    · refine c2 x y hx hy hne ?_
      dsimp only at e
      split at e
      · split at e
        · omega
        · split at e <;> omega
      · split at e
        · split at e
          · omega
          · split at e <;> omega
        · split at e
          · omega
          · split at e <;> omega
    · dsimp only
      by_cases e : h = i
      · rw [e, if_pos rfl]
      · have h1 := c3 h (by omega)
        have h2 := hj h (by omega)
        rw [h1, if_neg (by omega), if_neg e]
theorem kf_iff (hE : wfE n E) (hA : ∀ x, A x = true ↔ (x < n ∧ P x = false) ∨ ∃ h, h < u ∧ fr h = x) (hr : kr n P g u fr) (hu : u ≤ k) (hw : hp_w n E u P g) : kc (kf n E P g u fr) A k ↔ hp_x n E k P g := by
  constructor
  · intro hk
    obtain ⟨c, ⟨c1, c2⟩, c3⟩ := kf_lay hA hr hu hk u (Nat.le_refl u)
    have al : ∀ x, x < n → P x = false → A x = true := fun x hx px => (hA x).mpr (Or.inl ⟨hx, px⟩)
    have mix : ∀ a b, a < n → b < n → P a = true → P b = false → g a = c b → E a b = true := fun a b ha hb pa pb e => by
      have hg := hw.1 a ha pa
      have af : A (fr (g a)) = true := (hA _).mpr (Or.inr ⟨g a, hg, rfl⟩)
      have hne : b ≠ fr (g a) := fun z => by
        have := (hr (g a) hg).2.1
        rw [← z, pb] at this; cases this
      have hd := c2 b (fr (g a)) (al b hb pb) af hne (by rw [c3 _ hg, e])
      rcases hd with ⟨-, -, -, q, -⟩ | ⟨-, -, h, h1, h2, h3⟩ | ⟨-, q, -⟩
      · rw [(hr (g a) hg).2.1] at q; cases q
      · have e2 := (hr h h1).2.2
        rw [h2, (hr (g a) hg).2.2] at e2
        exact h3 a ha pa e2
      · rw [(hr (g a) hg).2.1] at q; cases q
    refine ⟨fun x => if P x = true then g x else c x, ⟨fun a ha => ?_, fun a b ha hb hne e => ?_⟩, fun a ha pa => if_pos pa⟩
    · dsimp only
      split
      · rename_i pa
        have := hw.1 a ha pa
        omega
      · rename_i pa
        exact c1 a (al a ha (ts_nt pa))
    · dsimp only at e
      by_cases pa : P a = true
      · by_cases pb : P b = true
        · rw [if_pos pa, if_pos pb] at e
          exact hw.2 a b ha hb pa pb hne e
        · rw [if_pos pa, if_neg pb] at e
          exact mix a b ha hb pa (ts_nt pb) e
      · by_cases pb : P b = true
        · rw [if_neg pa, if_pos pb] at e
          exact (hE b a (mix b a hb ha pb (ts_nt pa) e.symm)).2.2.2
        · rw [if_neg pa, if_neg pb] at e
          exact kf_E hE hr (c2 a b (al a ha (ts_nt pa)) (al b hb (ts_nt pb)) hne e)
  · rintro ⟨f, hv, hf⟩
    have ff : ∀ h, h < u → f (fr h) = h := fun h hh => by
      obtain ⟨r1, r2, r3⟩ := hr h hh
      rw [hf _ r1 r2, r3]
    have mix : ∀ x h, x < n → P x = false → h < u → f x = h → hp_f n E P g h x := fun x h hx px hh e b hb pb eb => by
      refine hv.2 b x hb hx (fun z => by rw [z, px] at pb; cases pb) ?_
      rw [hf b hb pb, eb, e]
    refine ⟨f, fun x hx => ?_, fun x y hx hy hne e => ?_⟩
    · rcases (hA x).mp hx with q | ⟨h, h1, h2⟩
      · exact hv.1 x q.1
      · rw [← h2]; exact hv.1 _ (hr h h1).1
    · rcases (hA x).mp hx with q | ⟨h, h1, h2⟩
      · rcases (hA y).mp hy with q' | ⟨h', h1', h2'⟩
        · exact Or.inl ⟨q.1, q.2, q'.1, q'.2, hv.2 x y q.1 q'.1 hne e⟩
        · exact Or.inr (Or.inl ⟨q.1, q.2, h', h1', h2', mix x h' q.1 q.2 h1' (by rw [e, ← h2', ff h' h1'])⟩)
      · rcases (hA y).mp hy with q' | ⟨h', h1', h2'⟩
        · exact Or.inr (Or.inr ⟨q'.1, q'.2, h, h1, h2, mix y h q'.1 q'.2 h1 (by rw [← e, ← h2, ff h h1])⟩)
        · rw [← h2, ← h2', ff h h1, ff h' h1'] at e
          rw [← h2, ← h2', e] at hne
          exact absurd rfl hne
end Kf

