/-! ===== lists: pure ===== -/
/-- counters of five bits -/
def pkc (f : Nat → Nat) : Nat → Nat
  | 0 => 0
  | i + 1 => pkc f i + f i * 2 ^ (5 * i)
theorem pkc_lt {f : Nat → Nat} : ∀ {n : Nat}, (∀ i, i < n → f i < 32) → pkc f n < 2 ^ (5 * n)
  | 0, _ => Nat.one_pos
  | n + 1, h => by
    have h1 : pkc f n < 2 ^ (5 * n) := pkc_lt (fun i hi => h i (by omega))
    have h2 : f n ≤ 31 := by have := h n (by omega); omega
    have h3 : f n * 2 ^ (5 * n) ≤ 31 * 2 ^ (5 * n) := Nat.mul_le_mul_right _ h2
    have h4 : 2 ^ (5 * (n + 1)) = 32 * 2 ^ (5 * n) := by rw [show 5 * (n + 1) = 5 + 5 * n by omega, Nat.pow_add]
    show pkc f n + f n * 2 ^ (5 * n) < _
    omega
theorem pkc_add (f g : Nat → Nat) : ∀ n, pkc f n + pkc g n = pkc (fun i => f i + g i) n
  | 0 => rfl
  | n + 1 => by
    have := pkc_add f g n
    show pkc f n + f n * 2 ^ (5 * n) + (pkc g n + g n * 2 ^ (5 * n)) = pkc (fun i => f i + g i) n + (f n + g n) * 2 ^ (5 * n)
    rw [Nat.add_mul]
    omega
theorem pkc_mul (f : Nat → Nat) (c : Nat) : ∀ n, pkc f n * c = pkc (fun i => f i * c) n
  | 0 => by simp [pkc]
  | n + 1 => by
    have := pkc_mul f c n
    show (pkc f n + f n * 2 ^ (5 * n)) * c = pkc (fun i => f i * c) n + f n * c * 2 ^ (5 * n)
    rw [Nat.add_mul, this, Nat.mul_assoc, Nat.mul_assoc, Nat.mul_comm c]
theorem pkc_bit {f : Nat → Nat} : ∀ {n i r : Nat}, (∀ i, i < n → f i < 32) → i < n → r < 5 → (pkc f n).testBit (5 * i + r) = (f i).testBit r
  | 0, i, r, _, h, _ => by omega
  | n + 1, i, r, h, hi, hr => by
    have h1 : pkc f n < 2 ^ (5 * n) := pkc_lt (fun i hi => h i (by omega))
    show (pkc f n + f n * 2 ^ (5 * n)).testBit _ = _
    rw [Nat.add_comm, Nat.mul_comm, Nat.testBit_two_pow_mul_add _ h1]
    by_cases e : i = n
    · subst e
      rw [if_neg (by omega), show 5 * i + r - 5 * i = r by omega]
    · rw [if_pos (by omega)]
      exact pkc_bit (fun i hi => h i (by omega)) (by omega) hr
theorem tb4 {x : Nat} (h : x < 32) : x.testBit 4 = false ↔ x < 16 := by
  have : ∀ x, x < 32 → (x.testBit 4 = false ↔ x < 16) := by decide
  exact this x h
theorem over_bits : ∀ j, j < 64 → bl 595056260442243600 j = decide (j % 5 = 4 ∧ j < 60) := by decide +kernel
theorem over_iff {f g : Nat → Nat} (hf : ∀ i, i < 12 → f i < 32) (hg : ∀ i, i < 12 → g i < 32) : ((lN (pkc f 12) ||| lN (pkc g 12)) &&& 595056260442243600 = 0) ↔ ∀ i, i < 12 → f i < 16 ∧ g i < 16 := by
  have pf : pkc f 12 < 2 ^ 60 := pkc_lt hf
  have pg : pkc g 12 < 2 ^ 60 := pkc_lt hg
  rw [bl_zero]
  constructor
  · intro h i hi
    have := h (5 * i + 4)
    rw [bl_and, over_bits _ (by omega), bl_or, bl_lN, bl_lN, pkc_bit hf hi (by decide), pkc_bit hg hi (by decide)] at this
    have e : (5 * i + 4) % 5 = 4 := by omega
    simp [e, show 5 * i + 4 < 60 by omega, show 5 * i + 4 < 64 by omega] at this
    exact ⟨(tb4 (hf i hi)).mp this.1, (tb4 (hg i hi)).mp this.2⟩
  · intro h j
    by_cases hj : j < 64
    · rw [bl_and, over_bits j hj]
      by_cases c : j % 5 = 4 ∧ j < 60
      · have ej : j = 5 * (j / 5) + 4 := by omega
        have hi : j / 5 < 12 := by omega
        rw [bl_or, bl_lN, bl_lN, ej, pkc_bit hf hi (by decide), pkc_bit hg hi (by decide), (tb4 (hf _ hi)).mpr (h _ hi).1, (tb4 (hg _ hi)).mpr (h _ hi).2]
        simp
      · simp [c]
    · rw [bl_big (by omega)]
/-- a set of w letters, of the first f, that the counters hold -/
def gdl (B : Nat → Nat → Bool) (f : Nat) (cv : Nat → Nat) (w x : Nat) : Prop := x < 2 ^ f ∧ fb_ct x.testBit f = w ∧ ∀ s, s < 24 → cv s + fb_ct (fun a => x.testBit a && B a s) f ≤ 15
def b2n (b : Bool) : Nat := if b then 1 else 0
def cvp (B : Nat → Nat → Bool) (cv : Nat → Nat) (a : Nat) : Nat → Nat := fun s => cv s + b2n (B a s)
theorem hi_bit {a x : Nat} (hx : x < 2 ^ a) : (2 ^ a + x).testBit a = true ∧ ∀ i, i < a → (2 ^ a + x).testBit i = x.testBit i := by
  have h : ∀ j, (2 ^ a + x).testBit j = if j < a then x.testBit j else (1 : Nat).testBit (j - a) := fun j => by
    have := Nat.testBit_two_pow_mul_add 1 hx j
    rwa [Nat.mul_one] at this
  refine ⟨?_, fun i hi => ?_⟩
  · rw [h, if_neg (by omega), Nat.sub_self]; rfl
  · rw [h, if_pos hi]
theorem gdl_lo {B : Nat → Nat → Bool} {a w x : Nat} {cv : Nat → Nat} (hx : x < 2 ^ a) : gdl B (a + 1) cv w x ↔ gdl B a cv w x := by
  have hb : x.testBit a = false := Nat.testBit_lt_two_pow hx
  have hp : 2 ^ (a + 1) = 2 ^ a * 2 := Nat.pow_succ 2 a
  unfold gdl
  simp only [fb_ct_succ, hb, Bool.false_and, Bool.false_eq_true, if_false, Nat.add_zero]
  exact ⟨fun z => ⟨hx, z.2⟩, fun z => ⟨by omega, z.2⟩⟩
theorem gdl_hi {B : Nat → Nat → Bool} {a w x : Nat} {cv : Nat → Nat} (hx : x < 2 ^ a) : gdl B (a + 1) cv (w + 1) (2 ^ a + x) ↔ gdl B a (cvp B cv a) w x := by
  obtain ⟨h1, h2⟩ := hi_bit hx
  have hp : 2 ^ (a + 1) = 2 ^ a * 2 := Nat.pow_succ 2 a
  have e1 : fb_ct (2 ^ a + x).testBit a = fb_ct x.testBit a := fb_ct_cong h2
  have e2 : ∀ s, fb_ct (fun b => (2 ^ a + x).testBit b && B b s) a = fb_ct (fun b => x.testBit b && B b s) a := fun s => fb_ct_cong (fun k hk => by rw [h2 k hk])
  unfold gdl cvp b2n
  simp only [fb_ct_succ, h1, Bool.true_and, e1, e2, if_true]
  constructor
  · rintro ⟨p, q, r⟩
    exact ⟨hx, by omega, fun s hs => by have := r s hs; omega⟩
  · rintro ⟨p, q, r⟩
    exact ⟨by omega, by omega, fun s hs => by have := r s hs; omega⟩
theorem gdl_hi0 {B : Nat → Nat → Bool} {a x : Nat} {cv : Nat → Nat} (hx : x < 2 ^ a) : ¬ gdl B (a + 1) cv 0 (2 ^ a + x) := by
  rintro ⟨p, q, r⟩
  rw [fb_ct_succ, (hi_bit hx).1] at q
  simp at q
theorem split2 {a y : Nat} (h : y < 2 ^ (a + 1)) : y < 2 ^ a ∨ ∃ x, x < 2 ^ a ∧ y = 2 ^ a + x := by
  have hp : 2 ^ (a + 1) = 2 ^ a * 2 := Nat.pow_succ 2 a
  by_cases c : y < 2 ^ a
  · exact Or.inl c
  · exact Or.inr ⟨y - 2 ^ a, by omega, by omega⟩
theorem gdl_mono {B : Nat → Nat → Bool} {f w x : Nat} {c1 c2 : Nat → Nat} (h : ∀ s, s < 24 → c1 s ≤ c2 s) (g : gdl B f c2 w x) : gdl B f c1 w x := ⟨g.1, g.2.1, fun s hs => by have := g.2.2 s hs; have := h s hs; omega⟩
theorem nI_nm1 {x : Nat} (h : x < 2 ^ 31) : ¬ nI x = -1 := fun e => by
  have := congrArg Int32.toInt e
  rw [nI_toInt h] at this
  have e1 : (-1 : Int32).toInt = -1 := by decide
  omega
theorem or_pow {a x : Nat} (ha : a < 31) (hx : x < 2 ^ a) : nI x ||| ((1 : Int32) <<< (nI a &&& 31)) = nI (2 ^ a + x) := by
  refine b_ext (fun i hi => ?_)
  rw [b_or, b_bit (by omega) hi, bt_nI, bt_nI]
  have h := Nat.testBit_two_pow_mul_add 1 hx i
  rw [Nat.mul_one] at h
  rw [h]
  by_cases c : i < a
  · simp [hi, c, show ¬ i = a by omega]
  · rw [if_neg c, Nat.testBit_lt_two_pow (Nat.lt_of_lt_of_le hx (Nat.pow_le_pow_right (by decide) (by omega)))]
    by_cases e : i = a
    · subst e; simp [hi]
    · simp [hi, e, show (1 : Nat).testBit (i - a) = false from by rw [show (1 : Nat) = 2 ^ 0 from rfl, Nat.testBit_two_pow]; simp; omega]
theorem shl1 {a : Nat} (ha : a < 31) : (1 : Int32) <<< (nI a &&& 31) = nI (2 ^ a) := by
  have := or_pow ha (Nat.two_pow_pos a)
  rw [Nat.add_zero] at this
  rw [← this]
  refine b_ext (fun i hi => ?_)
  rw [b_or, show nI 0 = (0 : Int32) from rfl, b_0]
  rfl
section PLists
variable {M : zz_M} {B : Nat → Nat → Bool}
theorem sp_spread {I : zz_I} {J : zz_J} {Q : zz_Q} (d : Nat) {x : Int32} (hQ : Q (some (.long (lN (pkc (fun i => b2n (bt x i)) 12)))) M I J) : zz_D mX4_spread d [.int x] M I J Q := by
  refine zz_D_of rfl (Nat.le_of_ble_eq_true rfl) ?_
  try dsimp only [zz_s1, zz_s2, zz_kill, zz_ent, zz_fl, List.set_cons_zero, List.set_cons_succ, List.getElem?_cons_zero, List.getElem?_cons_succ, Option.toList_some, Option.toList_none, List.cons_append, List.nil_append, List.append_nil, List.length_cons, List.length_nil, List.replicate_succ, List.replicate_zero, Nat.reduceAdd, Nat.reduceSub]
  refine zz_lconst (v := 0) (by decide) dX4_spread_0 ?_
  refine zz_lstore_n dX4_spread_1 (by decide) ?_
  refine zz_iconst (v := 0) (by decide) dX4_spread_2 ?_
  refine zz_istore_n dX4_spread_3 (by decide) ?_
  try dsimp only [zz_s1, zz_s2, zz_kill, zz_ent, zz_fl, List.set_cons_zero, List.set_cons_succ, List.getElem?_cons_zero, List.getElem?_cons_succ, Option.toList_some, Option.toList_none, List.cons_append, List.nil_append, List.append_nil, List.length_cons, List.length_nil, List.replicate_succ, List.replicate_zero, Nat.reduceAdd, Nat.reduceSub]
  have loop : ∀ (q i : Nat), i + q = 12 → zz_G mX4_spread d 0 4 [some (.int x), some (.long (lN (pkc (fun i => b2n (bt x i)) i))), none, some (.int (nI i))] [] M I J Q := by
    intro q
    induction q with
    | zero =>
      intro i hi
      have e : i = 12 := by omega
      subst e
      refine zz_iload_n rfl dX4_spread_4 ?_
      refine zz_bipush (v := 12) (by decide) dX4_spread_5 ?_
      try dsimp only [zz_s1, zz_s2, zz_kill, zz_ent, zz_fl, List.set_cons_zero, List.set_cons_succ, List.getElem?_cons_zero, List.getElem?_cons_succ, Option.toList_some, Option.toList_none, List.cons_append, List.nil_append, List.append_nil, List.length_cons, List.length_nil, List.replicate_succ, List.replicate_zero, Nat.reduceAdd, Nat.reduceSub]
      refine zz_icmp_ge (tgt := 29) dX4_spread_7 (by decide) (fun h => ?_) (fun h => ?_)
      · refine zz_lload_n rfl dX4_spread_29 ?_
        refine zz_lreturn dX4_spread_30 rfl ?_
        exact hQ
      · exact absurd (Int32.le_refl _) h
    | succ q ih =>
      intro i hi
      have hb : jv_ushr x (nI i) &&& 1 = nI (b2n (bt x i)) := by
        unfold b2n
        have hu : bt (jv_ushr x (nI i)) 0 = bt x i := by
          have := b_ushr i (by omega) x 0
          rw [Nat.add_zero] at this
          exact this
        cases c : bt x i with
        | true =>
          rw [if_pos rfl]
          rw [c] at hu
          exact (b_low1 _).mpr hu
        | false =>
          rw [if_neg (by decide)]
          rw [c] at hu
          exact (b_low0 _).mpr hu
      have hb1 : b2n (bt x i) ≤ 1 := by unfold b2n; split <;> omega
      have hlt : pkc (fun i => b2n (bt x i)) i < 2 ^ (5 * i) := pkc_lt (fun j _ => by unfold b2n; split <;> omega)
      have hpw : 2 ^ (5 * i) ≤ 2 ^ 55 := Nat.pow_le_pow_right (by decide) (by omega)
      have hm : b2n (bt x i) * 2 ^ (5 * i) ≤ 1 * 2 ^ (5 * i) := Nat.mul_le_mul_right _ hb1
      refine zz_iload_n rfl dX4_spread_4 ?_
      refine zz_bipush (v := 12) (by decide) dX4_spread_5 ?_
      try dsimp only [zz_s1, zz_s2, zz_kill, zz_ent, zz_fl, List.set_cons_zero, List.set_cons_succ, List.getElem?_cons_zero, List.getElem?_cons_succ, Option.toList_some, Option.toList_none, List.cons_append, List.nil_append, List.append_nil, List.length_cons, List.length_nil, List.replicate_succ, List.replicate_zero, Nat.reduceAdd, Nat.reduceSub]
      refine zz_icmp_ge (tgt := 29) dX4_spread_7 (by decide) (fun h => ?_) (fun h => ?_)
      · exact absurd h (nI_ge (b := 12) (by omega) (by decide))
      · skip
        refine zz_lload_n rfl dX4_spread_10 ?_
        refine zz_iload_n rfl dX4_spread_11 ?_
        refine zz_iload_n rfl dX4_spread_12 ?_
        refine zz_iushr dX4_spread_13 ?_
        refine zz_iconst (v := 1) (by decide) dX4_spread_14 ?_
        refine zz_iand dX4_spread_15 ?_
        refine zz_i2l dX4_spread_16 ?_
        refine zz_iload_n rfl dX4_spread_17 ?_
        refine zz_iconst (v := 5) (by decide) dX4_spread_18 ?_
        refine zz_imul dX4_spread_19 ?_
        refine zz_lshl dX4_spread_20 ?_
        refine zz_lor dX4_spread_21 ?_
        refine zz_lstore_n dX4_spread_22 (by decide) ?_
        refine zz_iinc dX4_spread_23 rfl (congrArg (HAdd.hAdd _) (show Int32.ofInt 1 = 1 by decide)) (by decide) ?_
        refine zz_goto (tgt := 4) dX4_spread_26 (by decide) ?_
        try dsimp only [zz_s1, zz_s2, zz_kill, zz_ent, zz_fl, List.set_cons_zero, List.set_cons_succ, List.getElem?_cons_zero, List.getElem?_cons_succ, Option.toList_some, Option.toList_none, List.cons_append, List.nil_append, List.append_nil, List.length_cons, List.length_nil, List.replicate_succ, List.replicate_zero, Nat.reduceAdd, Nat.reduceSub]
        rw [nI_1, hb, nI_l (by omega), show (5 : Int32) = nI 5 from rfl, pk_mul, Nat.mul_comm i 5, lsh_nI (by omega), wb_or (by omega) (by omega), Nat.or_comm, Nat.mul_comm (b2n (bt x i)), ← Nat.two_pow_add_eq_or_of_lt hlt, Nat.add_comm, Nat.mul_comm (2 ^ (5 * i))]
        exact ih (i + 1) (by omega)
  exact loop 12 0 (by omega)
theorem sp_search (hO : OK M) {st : Nat} : ∀ (f : Nat), f ≤ 16 → ∀ (d : Nat) (I : zz_I) (J : zz_J) (Q : zz_Q) (cv : Nat → Nat) (w : Nat), (∀ s, s < 24 → cv s ≤ 15) → (∀ s, s < 24 → st ≤ cv s) → (∀ a, a < f → J 21 a = lN (pkc (fun i => b2n (B a i)) 12) ∧ J 22 a = lN (pkc (fun i => b2n (B a (12 + i))) 12)) → (∀ g, 1 ≤ g → g ≤ f → ∃ R, I 23 g = nI R ∧ R ≤ 16 ∧ ∀ w x, gdl B g (fun _ => st) w x → w ≤ R) → w ≤ 17 → ((∀ x, ¬ gdl B f cv w x) → Q (some (.int (-1))) M I J) → (∀ x, gdl B f cv w x → (∀ y, gdl B f cv w y → x ≤ y) → Q (some (.int (nI x))) M I J) → zz_D mX4_search (d + f + 1) [.ref 20, .int (nI f), .long (lN (pkc cv 12)), .long (lN (pkc (fun i => cv (12 + i)) 12)), .int (nI w)] M I J Q := by
  intro f
  induction f with
  | zero =>
    intro hf d I J Q cv w hcv hst hJ hR hw h1 h2
    refine zz_D_of rfl (Nat.le_of_ble_eq_true rfl) ?_
    try dsimp only [zz_s1, zz_s2, zz_kill, zz_ent, zz_fl, List.set_cons_zero, List.set_cons_succ, List.getElem?_cons_zero, List.getElem?_cons_succ, Option.toList_some, Option.toList_none, List.cons_append, List.nil_append, List.append_nil, List.length_cons, List.length_nil, List.replicate_succ, List.replicate_zero, Nat.reduceAdd, Nat.reduceSub]
    refine zz_iload rfl dX4_search_0 ?_
    try dsimp only [zz_s1, zz_s2, zz_kill, zz_ent, zz_fl, List.set_cons_zero, List.set_cons_succ, List.getElem?_cons_zero, List.getElem?_cons_succ, Option.toList_some, Option.toList_none, List.cons_append, List.nil_append, List.append_nil, List.length_cons, List.length_nil, List.replicate_succ, List.replicate_zero, Nat.reduceAdd, Nat.reduceSub]
    refine zz_if_gt (tgt := 7) dX4_search_2 (by decide) (fun h => ?_) (fun h => ?_)
    · refine zz_iload_n rfl dX4_search_7 ?_
      try dsimp only [zz_s1, zz_s2, zz_kill, zz_ent, zz_fl, List.set_cons_zero, List.set_cons_succ, List.getElem?_cons_zero, List.getElem?_cons_succ, Option.toList_some, Option.toList_none, List.cons_append, List.nil_append, List.append_nil, List.length_cons, List.length_nil, List.replicate_succ, List.replicate_zero, Nat.reduceAdd, Nat.reduceSub]
      refine zz_if_le (tgt := 28) dX4_search_8 (by decide) (fun h3 => ?_) (fun h3 => ?_)
      · refine zz_iconst (v := (-1)) (by decide) dX4_search_28 ?_
        refine zz_ireturn dX4_search_29 rfl (by first | rfl | decide | assumption) ?_
        refine h1 (fun x g => ?_)
        have : w = 0 := g.2.1.symm
        rw [this] at h
        exact absurd h (by decide)
      · exact absurd (Int32.le_refl _) h3
    · skip
      have w0 : w = 0 := Nat.eq_zero_of_not_pos fun z => h (nI_lt (a := 0) z (by omega))
      subst w0
      refine zz_iconst (v := 0) (by decide) dX4_search_5 ?_
      refine zz_ireturn dX4_search_6 rfl (by first | rfl | decide | assumption) ?_
      exact h2 0 ⟨by decide, rfl, fun s hs => hcv s hs⟩ (fun y _ => Nat.zero_le y)
  | succ a ih =>
    intro hf d I J Q cv w hcv hst hJ hR hw h1 h2
    refine zz_D_of rfl (Nat.le_of_ble_eq_true rfl) ?_
    try dsimp only [zz_s1, zz_s2, zz_kill, zz_ent, zz_fl, List.set_cons_zero, List.set_cons_succ, List.getElem?_cons_zero, List.getElem?_cons_succ, Option.toList_some, Option.toList_none, List.cons_append, List.nil_append, List.append_nil, List.length_cons, List.length_nil, List.replicate_succ, List.replicate_zero, Nat.reduceAdd, Nat.reduceSub]
    refine zz_iload rfl dX4_search_0 ?_
    try dsimp only [zz_s1, zz_s2, zz_kill, zz_ent, zz_fl, List.set_cons_zero, List.set_cons_succ, List.getElem?_cons_zero, List.getElem?_cons_succ, Option.toList_some, Option.toList_none, List.cons_append, List.nil_append, List.append_nil, List.length_cons, List.length_nil, List.replicate_succ, List.replicate_zero, Nat.reduceAdd, Nat.reduceSub]
    refine zz_if_gt (tgt := 7) dX4_search_2 (by decide) (fun h => ?_) (fun h => ?_)
    rotate_left
    · skip
      have w0 : w = 0 := Nat.eq_zero_of_not_pos fun z => h (nI_lt (a := 0) z (by omega))
      subst w0
      refine zz_iconst (v := 0) (by decide) dX4_search_5 ?_
      refine zz_ireturn dX4_search_6 rfl (by first | rfl | decide | assumption) ?_
      refine h2 0 ⟨Nat.two_pow_pos _, fb_ct_zero.mpr (fun k _ => Nat.zero_testBit k), fun s hs => ?_⟩ (fun y _ => Nat.zero_le y)
      rw [show fb_ct (fun b => (0 : Nat).testBit b && B b s) (a + 1) = 0 from fb_ct_zero.mpr (fun k _ => by simp)]
      exact hcv s hs
    have hw1 : 1 ≤ w := Nat.pos_of_ne_zero fun z => by rw [z] at h; exact absurd h (by decide)
    obtain ⟨R, r1, r2, r3⟩ := hR (a + 1) (by omega) (Nat.le_refl _)
    refine zz_iload_n rfl dX4_search_7 ?_
    try dsimp only [zz_s1, zz_s2, zz_kill, zz_ent, zz_fl, List.set_cons_zero, List.set_cons_succ, List.getElem?_cons_zero, List.getElem?_cons_succ, Option.toList_some, Option.toList_none, List.cons_append, List.nil_append, List.append_nil, List.length_cons, List.length_nil, List.replicate_succ, List.replicate_zero, Nat.reduceAdd, Nat.reduceSub]
    refine zz_if_le (tgt := 28) dX4_search_8 (by decide) (fun h3 => ?_) (fun h3 => ?_)
    · exact absurd h3 (nI_nle (by omega) (by omega))
    refine zz_iload_n rfl dX4_search_11 ?_
    refine zz_bipush (v := 16) (by decide) dX4_search_12 ?_
    try dsimp only [zz_s1, zz_s2, zz_kill, zz_ent, zz_fl, List.set_cons_zero, List.set_cons_succ, List.getElem?_cons_zero, List.getElem?_cons_succ, Option.toList_some, Option.toList_none, List.cons_append, List.nil_append, List.append_nil, List.length_cons, List.length_nil, List.replicate_succ, List.replicate_zero, Nat.reduceAdd, Nat.reduceSub]
    refine zz_icmp_gt (tgt := 28) dX4_search_14 (by decide) (fun h4 => ?_) (fun h4 => ?_)
    · exact absurd h4 (Int32.not_lt.mpr (nI_le (b := 16) (by omega) (by decide)))
    refine zz_aload_n rfl dX4_search_17 ?_
    refine zz_getr dX4_search_18 fX4_18 (fun _ _ _ _ => rfl) (os_20 hO) (or_20_2 hO) ?_
    refine zz_iload_n rfl dX4_search_21 ?_
    refine zz_iald dX4_search_22 (os_23 hO) (vp_in_nI (show a + 1 < 17 by omega) (by decide)) ?_
    refine zz_iload rfl dX4_search_23 ?_
    try dsimp only [zz_s1, zz_s2, zz_kill, zz_ent, zz_fl, List.set_cons_zero, List.set_cons_succ, List.getElem?_cons_zero, List.getElem?_cons_succ, Option.toList_some, Option.toList_none, List.cons_append, List.nil_append, List.append_nil, List.length_cons, List.length_nil, List.replicate_succ, List.replicate_zero, Nat.reduceAdd, Nat.reduceSub]
    rw [nI_clamp (show a + 1 < 2 ^ 31 by omega), r1]
    refine zz_icmp_ge (tgt := 30) dX4_search_25 (by decide) (fun h5 => ?_) (fun h5 => ?_)
    rotate_left
    · refine zz_iconst (v := (-1)) (by decide) dX4_search_28 ?_
      refine zz_ireturn dX4_search_29 rfl (by first | rfl | decide | assumption) ?_
      refine h1 (fun x g => h5 (nI_le (r3 w x (gdl_mono hst g)) (by omega)))
    have hpa : 2 ^ a ≤ 2 ^ 16 := Nat.pow_le_pow_right (by decide) (by omega)
    refine zz_iload_n rfl dX4_search_30 ?_
    refine zz_iconst (v := 1) (by decide) dX4_search_31 ?_
    refine zz_isub dX4_search_32 ?_
    refine zz_istore dX4_search_33 (by decide) ?_
    refine zz_aload_n rfl dX4_search_35 ?_
    refine zz_iload rfl dX4_search_36 ?_
    refine zz_lload_n rfl dX4_search_38 ?_
    refine zz_lload rfl dX4_search_39 ?_
    refine zz_iload rfl dX4_search_41 ?_
    try dsimp only [zz_s1, zz_s2, zz_kill, zz_ent, zz_fl, List.set_cons_zero, List.set_cons_succ, List.getElem?_cons_zero, List.getElem?_cons_succ, Option.toList_some, Option.toList_none, List.cons_append, List.nil_append, List.append_nil, List.length_cons, List.length_nil, List.replicate_succ, List.replicate_zero, Nat.reduceAdd, Nat.reduceSub]
    rw [show nI (a + 1) - 1 = nI a from pk_sub (a := a + 1) (b := 1) (by omega)]
    refine zz_cV4 dX4_search_43 lX4_43 rfl (os_20 hO) rfl rfl (Nat.le_of_ble_eq_true rfl) (Nat.le_of_ble_eq_true rfl) ?_
    refine ih (by omega) d I J _ cv w hcv hst (fun b hb => hJ b (by omega)) (fun g g1 g2 => hR g g1 (by omega)) hw (fun hno => ?_) (fun x hx hle => ?_)
    · try dsimp only [zz_s1, zz_s2, zz_kill, zz_ent, zz_fl, List.set_cons_zero, List.set_cons_succ, List.getElem?_cons_zero, List.getElem?_cons_succ, Option.toList_some, Option.toList_none, List.cons_append, List.nil_append, List.append_nil, List.length_cons, List.length_nil, List.replicate_succ, List.replicate_zero, Nat.reduceAdd, Nat.reduceSub]
      refine zz_istore dX4_search_46 (by decide) ?_
      refine zz_iload rfl dX4_search_48 ?_
      refine zz_iconst (v := (-1)) (by decide) dX4_search_50 ?_
      try dsimp only [zz_s1, zz_s2, zz_kill, zz_ent, zz_fl, List.set_cons_zero, List.set_cons_succ, List.getElem?_cons_zero, List.getElem?_cons_succ, Option.toList_some, Option.toList_none, List.cons_append, List.nil_append, List.append_nil, List.length_cons, List.length_nil, List.replicate_succ, List.replicate_zero, Nat.reduceAdd, Nat.reduceSub]
      refine zz_icmp_eq (tgt := 57) dX4_search_51 (by decide) (fun h6 => ?_) (fun h6 => ?_)
      · refine zz_lload_n rfl dX4_search_57 ?_
        refine zz_aload_n rfl dX4_search_58 ?_
        refine zz_getr dX4_search_59 fX4_11 (fun _ _ _ _ => rfl) (os_20 hO) (or_20_0 hO) ?_
        refine zz_iload rfl dX4_search_62 ?_
        refine zz_lald dX4_search_64 (os_21 hO) (vp_in_nI (show a < 16 by omega) (by decide)) ?_
        refine zz_ladd dX4_search_65 ?_
        refine zz_lstore dX4_search_66 (by decide) ?_
        refine zz_lload rfl dX4_search_68 ?_
        refine zz_aload_n rfl dX4_search_70 ?_
        refine zz_getr dX4_search_71 fX4_15 (fun _ _ _ _ => rfl) (os_20 hO) (or_20_1 hO) ?_
        refine zz_iload rfl dX4_search_74 ?_
        refine zz_lald dX4_search_76 (os_22 hO) (vp_in_nI (show a < 16 by omega) (by decide)) ?_
        refine zz_ladd dX4_search_77 ?_
        refine zz_lstore dX4_search_78 (by decide) ?_
        refine zz_lload rfl dX4_search_80 ?_
        refine zz_lload rfl dX4_search_82 ?_
        refine zz_lor dX4_search_84 ?_
        refine zz_ldc2 tX4_47 dX4_search_85 ?_
        refine zz_land dX4_search_88 ?_
        refine zz_lconst (v := 0) (by decide) dX4_search_89 ?_
        refine zz_lcmp dX4_search_90 ?_
        try dsimp only [zz_s1, zz_s2, zz_kill, zz_ent, zz_fl, List.set_cons_zero, List.set_cons_succ, List.getElem?_cons_zero, List.getElem?_cons_succ, Option.toList_some, Option.toList_none, List.cons_append, List.nil_append, List.append_nil, List.length_cons, List.length_nil, List.replicate_succ, List.replicate_zero, Nat.reduceAdd, Nat.reduceSub]
        rw [nI_clamp (show a < 2 ^ 31 by omega), (hJ a (by omega)).1, (hJ a (by omega)).2, lN_add, lN_add, pkc_add, pkc_add]
        have hb1 : ∀ s, b2n (B a s) ≤ 1 := fun s => by unfold b2n; split <;> omega
        have eo := over_iff (f := fun i => cv i + b2n (B a i)) (g := fun i => cv (12 + i) + b2n (B a (12 + i))) (fun i hi => by have := hcv i (by omega); have := hb1 i; omega) (fun i hi => by have := hcv (12 + i) (by omega); have := hb1 (12 + i); omega)
        refine zz_if_eq (tgt := 96) dX4_search_91 (by decide) (fun h7 => ?_) (fun h7 => ?_)
        rotate_left
        · refine zz_iconst (v := (-1)) (by decide) dX4_search_94 ?_
          refine zz_ireturn dX4_search_95 rfl (by first | rfl | decide | assumption) ?_
          refine h1 (fun y g => h7 (cmp_eq.mpr (eo.mpr fun i hi => ?_)))
          rcases split2 g.1 with z | ⟨x, z1, z2⟩
          · exact absurd ((gdl_lo z).mp g) (hno y)
          · rw [z2, show w = (w - 1) + 1 by omega] at g
            have g2 := (gdl_hi z1).mp g
            have q1 := g2.2.2 i (by omega)
            have q2 := g2.2.2 (12 + i) (by omega)
            unfold cvp at q1 q2
            exact ⟨by omega, by omega⟩
        have ho := eo.mp (cmp_eq.mp h7)
        have hcv2 : ∀ s, s < 24 → cvp B cv a s ≤ 15 := fun s hs => by
          unfold cvp
          by_cases c : s < 12
          · have := (ho s c).1; omega
          · have := (ho (s - 12) (by omega)).2
            rw [show 12 + (s - 12) = s by omega] at this
            omega
        refine zz_aload_n rfl dX4_search_96 ?_
        refine zz_iload rfl dX4_search_97 ?_
        refine zz_lload rfl dX4_search_99 ?_
        refine zz_lload rfl dX4_search_101 ?_
        refine zz_iload rfl dX4_search_103 ?_
        refine zz_iconst (v := 1) (by decide) dX4_search_105 ?_
        refine zz_isub dX4_search_106 ?_
        try dsimp only [zz_s1, zz_s2, zz_kill, zz_ent, zz_fl, List.set_cons_zero, List.set_cons_succ, List.getElem?_cons_zero, List.getElem?_cons_succ, Option.toList_some, Option.toList_none, List.cons_append, List.nil_append, List.append_nil, List.length_cons, List.length_nil, List.replicate_succ, List.replicate_zero, Nat.reduceAdd, Nat.reduceSub]
        rw [show nI w - 1 = nI (w - 1) from pk_sub (b := 1) hw1]
        refine zz_cV4 dX4_search_107 lX4_43 rfl (os_20 hO) rfl rfl (Nat.le_of_ble_eq_true rfl) (Nat.le_of_ble_eq_true rfl) ?_
        refine ih (by omega) d I J _ (cvp B cv a) (w - 1) hcv2 (fun s hs => Nat.le_trans (hst s hs) (Nat.le_add_right _ _)) (fun b hb => hJ b (by omega)) (fun g g1 g2 => hR g g1 (by omega)) (by omega) (fun hno2 => ?_) (fun x hx hle => ?_)
        · try dsimp only [zz_s1, zz_s2, zz_kill, zz_ent, zz_fl, List.set_cons_zero, List.set_cons_succ, List.getElem?_cons_zero, List.getElem?_cons_succ, Option.toList_some, Option.toList_none, List.cons_append, List.nil_append, List.append_nil, List.length_cons, List.length_nil, List.replicate_succ, List.replicate_zero, Nat.reduceAdd, Nat.reduceSub]
          refine zz_istore dX4_search_110 (by decide) ?_
          refine zz_iload rfl dX4_search_112 ?_
          refine zz_iconst (v := (-1)) (by decide) dX4_search_114 ?_
          try dsimp only [zz_s1, zz_s2, zz_kill, zz_ent, zz_fl, List.set_cons_zero, List.set_cons_succ, List.getElem?_cons_zero, List.getElem?_cons_succ, Option.toList_some, Option.toList_none, List.cons_append, List.nil_append, List.append_nil, List.length_cons, List.length_nil, List.replicate_succ, List.replicate_zero, Nat.reduceAdd, Nat.reduceSub]
          refine zz_icmp_ne (tgt := 122) dX4_search_115 (by decide) (fun h8 => ?_) (fun h8 => ?_)
          · exact absurd rfl h8
          · skip
            refine zz_iconst (v := (-1)) (by decide) dX4_search_118 ?_
            refine zz_goto (tgt := 129) dX4_search_119 (by decide) ?_
            refine zz_ireturn dX4_search_129 rfl (by first | rfl | decide | assumption) ?_
            refine h1 (fun y g => ?_)
            rcases split2 g.1 with z | ⟨x, z1, z2⟩
            · exact absurd ((gdl_lo z).mp g) (hno y)
            · rw [z2, show w = (w - 1) + 1 by omega] at g
              exact hno2 x ((gdl_hi z1).mp g)
        · try dsimp only [zz_s1, zz_s2, zz_kill, zz_ent, zz_fl, List.set_cons_zero, List.set_cons_succ, List.getElem?_cons_zero, List.getElem?_cons_succ, Option.toList_some, Option.toList_none, List.cons_append, List.nil_append, List.append_nil, List.length_cons, List.length_nil, List.replicate_succ, List.replicate_zero, Nat.reduceAdd, Nat.reduceSub]
          have hx2 : x < 2 ^ a := hx.1
          refine zz_istore dX4_search_110 (by decide) ?_
          refine zz_iload rfl dX4_search_112 ?_
          refine zz_iconst (v := (-1)) (by decide) dX4_search_114 ?_
          try dsimp only [zz_s1, zz_s2, zz_kill, zz_ent, zz_fl, List.set_cons_zero, List.set_cons_succ, List.getElem?_cons_zero, List.getElem?_cons_succ, Option.toList_some, Option.toList_none, List.cons_append, List.nil_append, List.append_nil, List.length_cons, List.length_nil, List.replicate_succ, List.replicate_zero, Nat.reduceAdd, Nat.reduceSub]
          refine zz_icmp_ne (tgt := 122) dX4_search_115 (by decide) (fun h8 => ?_) (fun h8 => ?_)
          · refine zz_iload rfl dX4_search_122 ?_
            refine zz_iconst (v := 1) (by decide) dX4_search_124 ?_
            refine zz_iload rfl dX4_search_125 ?_
            refine zz_ishl dX4_search_127 ?_
            refine zz_ior dX4_search_128 ?_
            refine zz_ireturn dX4_search_129 rfl (by first | rfl | decide | assumption) ?_
            rw [or_pow (by omega) hx2]
            refine h2 (2 ^ a + x) ?_ (fun y g => ?_)
            · have := (gdl_hi hx2).mpr hx
              rwa [show w - 1 + 1 = w by omega] at this
            · rcases split2 g.1 with z | ⟨x', z1, z2⟩
              · exact absurd ((gdl_lo z).mp g) (hno y)
              · rw [z2, show w = (w - 1) + 1 by omega] at g
                have := hle x' ((gdl_hi z1).mp g)
                omega
          · exact absurd h8 (nI_nm1 (by omega))
      · exact absurd rfl h6
    · try dsimp only [zz_s1, zz_s2, zz_kill, zz_ent, zz_fl, List.set_cons_zero, List.set_cons_succ, List.getElem?_cons_zero, List.getElem?_cons_succ, Option.toList_some, Option.toList_none, List.cons_append, List.nil_append, List.append_nil, List.length_cons, List.length_nil, List.replicate_succ, List.replicate_zero, Nat.reduceAdd, Nat.reduceSub]
      have hx2 : x < 2 ^ a := hx.1
      refine zz_istore dX4_search_46 (by decide) ?_
      refine zz_iload rfl dX4_search_48 ?_
      refine zz_iconst (v := (-1)) (by decide) dX4_search_50 ?_
      try dsimp only [zz_s1, zz_s2, zz_kill, zz_ent, zz_fl, List.set_cons_zero, List.set_cons_succ, List.getElem?_cons_zero, List.getElem?_cons_succ, Option.toList_some, Option.toList_none, List.cons_append, List.nil_append, List.append_nil, List.length_cons, List.length_nil, List.replicate_succ, List.replicate_zero, Nat.reduceAdd, Nat.reduceSub]
      refine zz_icmp_eq (tgt := 57) dX4_search_51 (by decide) (fun h6 => ?_) (fun h6 => ?_)
      · exact absurd h6 (nI_nm1 (by omega))
      · skip
        refine zz_iload rfl dX4_search_54 ?_
        refine zz_ireturn dX4_search_56 rfl (by first | rfl | decide | assumption) ?_
        refine h2 x ((gdl_lo hx2).mpr hx) (fun y g => ?_)
        rcases split2 g.1 with z | ⟨x', z1, z2⟩
        · exact hle y ((gdl_lo z).mp g)
        · omega
end PLists

