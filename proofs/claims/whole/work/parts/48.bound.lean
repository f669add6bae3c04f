/-! ===== the bound by rows ===== -/
def prz (r : Nat → Nat → Int32) (a b : Nat) : Nat → Int
  | 0 => 0
  | i + 1 => prz r a b i + (r a i).toInt * (r b i).toInt
/-- all numbers of a line's rows lie between -30 and 30 -/
def rok (r : Nat → Nat → Int32) : Prop := ∀ a, a < 25 → ∀ i, i < 6 → -30 ≤ (r a i).toInt ∧ (r a i).toInt ≤ 30
theorem mul_30 {x y : Int} (h1 : -30 ≤ x) (h2 : x ≤ 30) (h3 : -30 ≤ y) (h4 : y ≤ 30) : -900 ≤ x * y ∧ x * y ≤ 900 := by
  have a1 : 0 ≤ (30 - x) * (30 - y) := Int.mul_nonneg (by omega) (by omega)
  have a2 : 0 ≤ (30 + x) * (30 + y) := Int.mul_nonneg (by omega) (by omega)
  have a3 : 0 ≤ (30 - x) * (30 + y) := Int.mul_nonneg (by omega) (by omega)
  have a4 : 0 ≤ (30 + x) * (30 - y) := Int.mul_nonneg (by omega) (by omega)
  rw [Int.sub_mul, Int.mul_sub, Int.mul_sub] at a1
  rw [Int.add_mul, Int.mul_add, Int.mul_add] at a2
  rw [Int.sub_mul, Int.mul_add, Int.mul_add] at a3
  rw [Int.add_mul, Int.mul_sub, Int.mul_sub] at a4
  generalize x * y = z at *
  omega
theorem prd_int {r : Nat → Nat → Int32} (hr : rok r) {a b : Nat} (ha : a < 25) (hb : b < 25) : ∀ i, i ≤ 6 → (prd r a b i).toInt = prz r a b i ∧ -(900 * (i : Int)) ≤ prz r a b i ∧ prz r a b i ≤ 900 * i
  | 0, _ => ⟨rfl, by simp [prz], by simp [prz]⟩
  | i + 1, hi => by
    obtain ⟨h1, h2, h3⟩ := prd_int hr ha hb i (by omega)
    have q1 := hr a ha i (by omega)
    have q2 := hr b hb i (by omega)
    have q3 := mul_30 q1.1 q1.2 q2.1 q2.2
    have hm : (r a i * r b i).toInt = (r a i).toInt * (r b i).toInt := fb_mulI (by omega) (by omega)
    have hs : (prd r a b i + r a i * r b i).toInt = (prd r a b i).toInt + (r a i * r b i).toInt := fb_addI (by rw [hm, h1]; omega) (by rw [hm, h1]; omega)
    refine ⟨?_, ?_, ?_⟩
    · show (prd r a b i + r a i * r b i).toInt = _
      rw [hs, hm, h1]
      rfl
    · show _ ≤ prz r a b i + (r a i).toInt * (r b i).toInt
      omega
    · show prz r a b i + (r a i).toInt * (r b i).toInt ≤ _
      omega
theorem prz_nn (r : Nat → Nat → Int32) (a : Nat) : ∀ i, 0 ≤ prz r a a i
  | 0 => by simp [prz]
  | i + 1 => by
    have h := prz_nn r a i
    have h2 : 0 ≤ (r a i).toInt * (r a i).toInt := by
      rcases Int.le_total 0 (r a i).toInt with q | q
      · exact Int.mul_nonneg q q
      · exact Int.mul_nonneg_of_nonpos_of_nonpos q q
    show 0 ≤ prz r a a i + (r a i).toInt * (r a i).toInt
    omega
theorem prz_zero {r : Nat → Nat → Int32} {a b : Nat} : ∀ i, prz r a a i = 0 → prz r a b i = 0
  | 0, _ => rfl
  | i + 1, h => by
    have h1 := prz_nn r a i
    have h2 : 0 ≤ (r a i).toInt * (r a i).toInt := by
      rcases Int.le_total 0 (r a i).toInt with q | q
      · exact Int.mul_nonneg q q
      · exact Int.mul_nonneg_of_nonpos_of_nonpos q q
    have h3 : prz r a a i + (r a i).toInt * (r a i).toInt = 0 := h
    have h4 : (r a i).toInt = 0 := by
      have : (r a i).toInt * (r a i).toInt = 0 := by omega
      exact (Int.mul_eq_zero.mp this).elim id id
    show prz r a b i + (r a i).toInt * (r b i).toInt = 0
    rw [prz_zero i (by omega), h4]
    simp
theorem prz_comm (r : Nat → Nat → Int32) (a b : Nat) : ∀ i, prz r a b i = prz r b a i
  | 0 => rfl
  | i + 1 => by
    show prz r a b i + (r a i).toInt * (r b i).toInt = prz r b a i + (r b i).toInt * (r a i).toInt
    rw [prz_comm r a b i, Int.mul_comm]
/-- the numerator and the denominator of a letter -/
def ov (r : Nat → Nat → Int32) (a : Nat) : Nat := (prz r a a 6).toNat * (prz r 24 24 6).toNat
def un (r : Nat → Nat → Int32) (a : Nat) : Nat := (prz r a 24 6).natAbs * (prz r a 24 6).natAbs
theorem sq_nI {r : Nat → Nat → Int32} (hr : rok r) {a : Nat} (ha : a < 25) : prd r a a 6 = nI (prz r a a 6).toNat ∧ (prz r a a 6).toNat ≤ 5400 := by
  have h := prd_int hr ha ha 6 (Nat.le_refl _)
  have h0 := prz_nn r a 6
  refine ⟨Int32.toInt_inj.mp ?_, by omega⟩
  rw [h.1, nI_toInt (by omega)]
  omega
theorem jt_nI {r : Nat → Nat → Int32} (hr : rok r) {a : Nat} (ha : a < 25) : prd r a 24 6 * prd r a 24 6 = nI (un r a) ∧ un r a ≤ 29160000 ∧ (¬ prd r a 24 6 = 0 → 0 < un r a ∧ 0 < ov r a) := by
  have h := prd_int hr ha (show 24 < 25 by decide) 6 (Nat.le_refl _)
  have hb : (prz r a 24 6).natAbs ≤ 5400 := by omega
  have hu : un r a ≤ 5400 * 5400 := Nat.mul_le_mul hb hb
  have hz : prz r a 24 6 * prz r a 24 6 = (un r a : Int) := by
    unfold un
    rw [← Int.natAbs_mul_self]
  refine ⟨Int32.toInt_inj.mp ?_, by omega, fun hne => ?_⟩
  · rw [fb_mulI (by rw [h.1, hz]; omega) (by rw [h.1, hz]; omega), h.1, hz, nI_toInt (by omega)]
  · have hn0 : prz r a 24 6 ≠ 0 := fun q => hne (Int32.toInt_inj.mp (by rw [h.1, q]; rfl))
    refine ⟨Nat.mul_pos (by omega) (by omega), Nat.mul_pos ?_ ?_⟩
    · have h1 := prz_nn r a 6
      have : prz r a a 6 ≠ 0 := fun q => hn0 (prz_zero 6 q)
      omega
    · have h1 := prz_nn r 24 6
      have : prz r 24 24 6 ≠ 0 := fun q => hn0 (by rw [prz_comm]; exact prz_zero 6 q)
      omega
theorem ov_le {r : Nat → Nat → Int32} (hr : rok r) {a : Nat} (ha : a < 25) : ov r a ≤ 29160000 := by
  have h1 := (sq_nI hr ha).2
  have h2 := (sq_nI hr (show 24 < 25 by decide)).2
  have : ov r a ≤ 5400 * 5400 := Nat.mul_le_mul h1 h2
  omega
/-- the best of the first letters: numerator, denominator, letter -/
def bs (r : Nat → Nat → Int32) : Nat → Nat × Nat × Nat
  | 0 => (0, 1, 0)
  | a + 1 => if (bs r a).1 * un r a < ov r a * (bs r a).2.1 then (ov r a, un r a, a) else bs r a
theorem bs_le {r : Nat → Nat → Int32} (hr : rok r) : ∀ a, a ≤ 24 → (bs r a).1 ≤ 29160000 ∧ (bs r a).2.1 ≤ 29160000 ∧ (bs r a).2.2 ≤ 24
  | 0, _ => ⟨Nat.zero_le _, show 1 ≤ 29160000 by decide, Nat.zero_le _⟩
  | a + 1, ha => by
    have ih := bs_le hr a (by omega)
    unfold bs
    split
    · exact ⟨ov_le hr (by omega), (jt_nI hr (by omega)).2.1, by show a ≤ 24; omega⟩
    · exact ih
theorem bs_pos {r : Nat → Nat → Int32} (hr : rok r) {n : Nat} (hn : n ≤ 24) (hp : ∀ a, a < n → ¬ prd r a 24 6 = 0) : ∀ a, a ≤ n → 0 < (bs r a).2.1 ∧ (1 ≤ a → 0 < (bs r a).1)
  | 0, _ => ⟨Nat.one_pos, fun h => absurd h (by decide)⟩
  | a + 1, ha => by
    have ih := bs_pos hr hn hp a (by omega)
    have hu := (jt_nI hr (a := a) (by omega)).2.2 (hp a (by omega))
    unfold bs
    split
    · exact ⟨hu.1, fun _ => hu.2⟩
    · rename_i hno
      refine ⟨ih.1, fun _ => ?_⟩
      refine Nat.pos_of_ne_zero fun q => hno ?_
      rw [q, Nat.zero_mul]
      exact Nat.mul_pos hu.2 ih.1
theorem fl2_nn {E : Nat → Nat → Bool} {r : Nat → Nat → Int32} {a : Nat} (ha : a < 1000) : ∀ (q b : Nat) (x : Int32), b + q < 1000 → fl2 E r a q b = some x → ¬ x = -1
  | 0, b, x, hb, h => by cases h
  | q + 1, b, x, hb, h => by
    unfold fl2 at h
    split at h
    · cases h
      intro e
      have := congrArg Int32.toInt e
      rw [nI_toInt (by omega)] at this
      have e1 : (-1 : Int32).toInt = -1 := by decide
      omega
    · exact fl2_nn ha q (b + 1) x (by omega) h
theorem fl1_nn {E : Nat → Nat → Bool} {r : Nat → Nat → Int32} : ∀ (q a : Nat) (x : Int32), a + q < 999 → fl1 E r q a = some x → ¬ x = -1
  | 0, a, x, ha, h => by cases h
  | q + 1, a, x, ha, h => by
    unfold fl1 at h
    split at h
    · rename_i y hy
      cases h
      exact fl2_nn (by omega) q (a + 1) _ (by omega) hy
    · exact fl1_nn q (a + 1) x (by omega) h
theorem fl3_none {r : Nat → Nat → Int32} : ∀ (q a : Nat), a + q < 1000 → (match fl3 r q a with | some x => x | none => (-1 : Int32)) = -1 → ∀ b, a ≤ b → b < a + q → ¬ prd r b 24 6 = 0
  | 0, a, _, _, b, h1, h2 => by omega
  | q + 1, a, ha, h, b, h1, h2 => by
    unfold fl3 at h
    by_cases c : prd r a 24 6 = 0
    · rw [if_pos c] at h
      have h : nI (10000 + a) = -1 := h
      have := congrArg Int32.toInt h
      rw [nI_toInt (by omega)] at this
      have e1 : (-1 : Int32).toInt = -1 := by decide
      omega
    · rw [if_neg c] at h
      by_cases e : b = a
      · rw [e]; exact c
      · exact fl3_none q (a + 1) (by omega) h b (by omega) (by omega)
theorem ff_ok {n : Nat} {E : Nat → Nat → Bool} {r : Nat → Nat → Int32} (hn : n ≤ 24) (h : ff n E r = -1) : ∀ a, a < n → ¬ prd r a 24 6 = 0 := by
  unfold ff at h
  cases h1 : fl1 E r n 0 with
  | some x =>
    rw [h1] at h
    exact absurd h (fl1_nn n 0 x (by omega) h1)
  | none =>
    rw [h1] at h
    exact fun a ha => fl3_none n 0 (by omega) h a (Nat.zero_le a) (by omega)
section PBound
variable {M : zz_M} {I : zz_I} {J : zz_J} {Q : zz_Q}
theorem i2l_mul {a b : Nat} (ha : a < 2 ^ 31) (hb : b < 2 ^ 31) : (nI a).toInt64 * (nI b).toInt64 = lN (a * b) := by rw [nI_l ha, nI_l hb, lN_mul]
theorem le_cmp {x z : Int64} : lg_cmp x z ≤ 0 ↔ ¬ z < x := by
  rw [← cmp_gt, Int32.not_lt]
theorem sp_offer (d : Nat) (hO : OK M) {A B o u a : Nat} (h0 : I 16 0 = nI A) (h1 : I 16 1 = nI B) (hA : A < 2 ^ 25) (hB : B < 2 ^ 25) (ho : o < 2 ^ 25) (hu : u < 2 ^ 25) (hy : A * u < o * B → Q none M (zz_ui (zz_ui (zz_ui I 16 0 (nI o)) 16 1 (nI u)) 16 2 (nI a)) J) (hx : ¬ A * u < o * B → Q none M I J) : zz_D mX6_offer d [.ref 16, .int (nI o), .int (nI u), .int (nI a)] M I J Q := by
  have b1 : o * B < 2 ^ 25 * 2 ^ 25 := Nat.mul_lt_mul'' ho hB
  have b2 : A * u < 2 ^ 25 * 2 ^ 25 := Nat.mul_lt_mul'' hA hu
  refine zz_D_of rfl (Nat.le_of_ble_eq_true rfl) ?_
  try dsimp only [zz_s1, zz_s2, zz_kill, zz_ent, zz_fl, List.set_cons_zero, List.set_cons_succ, List.getElem?_cons_zero, List.getElem?_cons_succ, Option.toList_some, Option.toList_none, List.cons_append, List.nil_append, List.append_nil, List.length_cons, List.length_nil, List.replicate_succ, List.replicate_zero, Nat.reduceAdd, Nat.reduceSub]
  refine zz_iload_n rfl dX6_offer_0 ?_
  refine zz_i2l dX6_offer_1 ?_
  refine zz_aload_n rfl dX6_offer_2 ?_
  refine zz_geti dX6_offer_3 fX6_15 rfl (os_16 hO) ?_
  refine zz_i2l dX6_offer_6 ?_
  refine zz_lmul dX6_offer_7 ?_
  refine zz_aload_n rfl dX6_offer_8 ?_
  refine zz_geti dX6_offer_9 fX6_9 rfl (os_16 hO) ?_
  refine zz_i2l dX6_offer_12 ?_
  refine zz_iload_n rfl dX6_offer_13 ?_
  refine zz_i2l dX6_offer_14 ?_
  refine zz_lmul dX6_offer_15 ?_
  refine zz_lcmp dX6_offer_16 ?_
  try dsimp only [zz_s1, zz_s2, zz_kill, zz_ent, zz_fl, List.set_cons_zero, List.set_cons_succ, List.getElem?_cons_zero, List.getElem?_cons_succ, Option.toList_some, Option.toList_none, List.cons_append, List.nil_append, List.append_nil, List.length_cons, List.length_nil, List.replicate_succ, List.replicate_zero, Nat.reduceAdd, Nat.reduceSub]
  rw [h0, h1, i2l_mul (by omega) (by omega), i2l_mul (by omega) (by omega)]
  refine zz_if_le (tgt := 35) dX6_offer_17 (by decide) (fun h => ?_) (fun h => ?_)
  · refine zz_return dX6_offer_35 rfl ?_
    exact hx (fun q => le_cmp.mp h ((pk_lLT (by omega) (by omega)).mpr q))
  · skip
    refine zz_aload_n rfl dX6_offer_20 ?_
    refine zz_iload_n rfl dX6_offer_21 ?_
    refine zz_puti dX6_offer_22 fX6_9 rfl (fun q h => by cases h; rfl) (os_16 hO) ?_
    refine zz_aload_n rfl dX6_offer_25 ?_
    refine zz_iload_n rfl dX6_offer_26 ?_
    refine zz_puti dX6_offer_27 fX6_15 rfl (fun q h => by cases h; rfl) (os_16 hO) ?_
    refine zz_aload_n rfl dX6_offer_30 ?_
    refine zz_iload_n rfl dX6_offer_31 ?_
    refine zz_puti dX6_offer_32 fX6_18 rfl (fun q h => by cases h; rfl) (os_16 hO) ?_
    refine zz_return dX6_offer_35 rfl ?_
    refine hy (Nat.lt_of_not_le fun q => h (le_cmp.mpr fun z => ?_))
    have := (pk_lLT (by omega) (by omega)).mp z
    omega
theorem gcd_step (g l : Nat) : Nat.gcd g l = Nat.gcd l (g % l) := by
  rw [Nat.gcd_comm g l, Nat.gcd_rec l g, Nat.gcd_comm]
theorem sp_cut (d : Nat) (hO : OK M) {A B : Nat} (h0 : I 16 0 = nI A) (h1 : I 16 1 = nI B) (hA : A < 2 ^ 25) (hB : B < 2 ^ 25) (hp : 0 < B) (hQ : Q none M (zz_ui (zz_ui I 16 0 (nI (A / Nat.gcd A B))) 16 1 (nI (B / Nat.gcd A B))) J) : zz_D mX6_cut d [.ref 16] M I J Q := by
  have hg : 0 < Nat.gcd A B := Nat.gcd_pos_of_pos_right _ hp
  have hgB : Nat.gcd A B ≤ B := Nat.gcd_le_right _ hp
  refine zz_D_of rfl (Nat.le_of_ble_eq_true rfl) ?_
  try dsimp only [zz_s1, zz_s2, zz_kill, zz_ent, zz_fl, List.set_cons_zero, List.set_cons_succ, List.getElem?_cons_zero, List.getElem?_cons_succ, Option.toList_some, Option.toList_none, List.cons_append, List.nil_append, List.append_nil, List.length_cons, List.length_nil, List.replicate_succ, List.replicate_zero, Nat.reduceAdd, Nat.reduceSub]
  refine zz_aload_n rfl dX6_cut_0 ?_
  refine zz_geti dX6_cut_1 fX6_9 rfl (os_16 hO) ?_
  refine zz_istore_n dX6_cut_4 (by decide) ?_
  refine zz_aload_n rfl dX6_cut_5 ?_
  refine zz_geti dX6_cut_6 fX6_15 rfl (os_16 hO) ?_
  refine zz_istore_n dX6_cut_9 (by decide) ?_
  refine zz_iconst (v := 0) (by decide) dX6_cut_10 ?_
  refine zz_istore_n dX6_cut_11 (by decide) ?_
  try dsimp only [zz_s1, zz_s2, zz_kill, zz_ent, zz_fl, List.set_cons_zero, List.set_cons_succ, List.getElem?_cons_zero, List.getElem?_cons_succ, Option.toList_some, Option.toList_none, List.cons_append, List.nil_append, List.append_nil, List.length_cons, List.length_nil, List.replicate_succ, List.replicate_zero, Nat.reduceAdd, Nat.reduceSub]
  rw [h0, h1]
  have fin : ∀ (g : Nat) (lv sv : Int32) (z : Option Value), g = Nat.gcd A B → zz_G mX6_cut d 0 38 [some (.ref 16), some (.int (nI g)), some (.int lv), some (.int sv), z] [] M I J Q := by
    intro g lv sv z eg
    subst eg
    refine zz_iload_n rfl dX6_cut_38 ?_
    try dsimp only [zz_s1, zz_s2, zz_kill, zz_ent, zz_fl, List.set_cons_zero, List.set_cons_succ, List.getElem?_cons_zero, List.getElem?_cons_succ, Option.toList_some, Option.toList_none, List.cons_append, List.nil_append, List.append_nil, List.length_cons, List.length_nil, List.replicate_succ, List.replicate_zero, Nat.reduceAdd, Nat.reduceSub]
    refine zz_if_le (tgt := 62) dX6_cut_39 (by decide) (fun h => ?_) (fun h => ?_)
    · exact absurd h (nI_nle hg (by omega))
    · skip
      refine zz_aload_n rfl dX6_cut_42 ?_
      refine zz_dup rfl dX6_cut_43 ?_
      refine zz_geti dX6_cut_44 fX6_9 rfl (os_16 hO) ?_
      refine zz_iload_n rfl dX6_cut_47 ?_
      refine zz_idiv (nI_ne0 hg (by omega)) dX6_cut_48 ?_
      refine zz_puti dX6_cut_49 fX6_9 rfl (fun q h => by cases h; rfl) (os_16 hO) ?_
      refine zz_aload_n rfl dX6_cut_52 ?_
      refine zz_dup rfl dX6_cut_53 ?_
      refine zz_geti dX6_cut_54 fX6_15 rfl (os_16 hO) ?_
      refine zz_iload_n rfl dX6_cut_57 ?_
      refine zz_idiv (nI_ne0 hg (by omega)) dX6_cut_58 ?_
      refine zz_puti dX6_cut_59 fX6_15 rfl (fun q h => by cases h; rfl) (os_16 hO) ?_
      refine zz_return dX6_cut_62 rfl ?_
      rw [h0, zz_ui_at, pk_un (by decide), h1, pk_div (by omega) hg (by omega), pk_div (by omega) hg (by omega)]
      exact hQ
  have loop : ∀ (r s g l k : Nat) (z : Option Value), s + r = 64 → g < 2 ^ 31 → l < 2 ^ 31 → Nat.gcd g l = Nat.gcd A B → g * l < 2 ^ k → (l ≤ g → k ≤ r) → (g < l → k + 1 ≤ r) → zz_G mX6_cut d 0 12 [some (.ref 16), some (.int (nI g)), some (.int (nI l)), some (.int (nI s)), z] [] M I J Q := by
    intro r
    induction r with
    | zero =>
      intro s g l k z hs g1 g2 g3 g4 g5 g6
      have hl0 : l = 0 := by
        rcases Nat.lt_or_ge g l with q | q
        · have := g6 q; omega
        · have := g5 q
          have k0 : k = 0 := by omega
          rw [k0] at g4
          rcases Nat.eq_zero_or_pos l with e | e
          · exact e
          · have : 0 < g * l := Nat.mul_pos (by omega) e
            omega
      subst hl0
      rw [Nat.gcd_zero_right] at g3
      refine zz_iload_n rfl dX6_cut_12 ?_
      refine zz_bipush (v := 64) (by decide) dX6_cut_13 ?_
      try dsimp only [zz_s1, zz_s2, zz_kill, zz_ent, zz_fl, List.set_cons_zero, List.set_cons_succ, List.getElem?_cons_zero, List.getElem?_cons_succ, Option.toList_some, Option.toList_none, List.cons_append, List.nil_append, List.append_nil, List.length_cons, List.length_nil, List.replicate_succ, List.replicate_zero, Nat.reduceAdd, Nat.reduceSub]
      refine zz_icmp_ge (tgt := 38) dX6_cut_15 (by decide) (fun h => ?_) (fun h => ?_)
      · exact fin g _ _ _ g3
      · skip
        refine zz_iload_n rfl dX6_cut_18 ?_
        try dsimp only [zz_s1, zz_s2, zz_kill, zz_ent, zz_fl, List.set_cons_zero, List.set_cons_succ, List.getElem?_cons_zero, List.getElem?_cons_succ, Option.toList_some, Option.toList_none, List.cons_append, List.nil_append, List.append_nil, List.length_cons, List.length_nil, List.replicate_succ, List.replicate_zero, Nat.reduceAdd, Nat.reduceSub]
        refine zz_if_eq (tgt := 38) dX6_cut_19 (by decide) (fun h2 => ?_) (fun h2 => ?_)
        · exact fin g _ _ _ g3
        · exact absurd rfl h2
    | succ r ih =>
      intro s g l k z hs g1 g2 g3 g4 g5 g6
      refine zz_iload_n rfl dX6_cut_12 ?_
      refine zz_bipush (v := 64) (by decide) dX6_cut_13 ?_
      try dsimp only [zz_s1, zz_s2, zz_kill, zz_ent, zz_fl, List.set_cons_zero, List.set_cons_succ, List.getElem?_cons_zero, List.getElem?_cons_succ, Option.toList_some, Option.toList_none, List.cons_append, List.nil_append, List.append_nil, List.length_cons, List.length_nil, List.replicate_succ, List.replicate_zero, Nat.reduceAdd, Nat.reduceSub]
      refine zz_icmp_ge (tgt := 38) dX6_cut_15 (by decide) (fun h => ?_) (fun h => ?_)
      · exact absurd h (nI_ge (b := 64) (by omega) (by decide))
      · skip
        refine zz_iload_n rfl dX6_cut_18 ?_
        try dsimp only [zz_s1, zz_s2, zz_kill, zz_ent, zz_fl, List.set_cons_zero, List.set_cons_succ, List.getElem?_cons_zero, List.getElem?_cons_succ, Option.toList_some, Option.toList_none, List.cons_append, List.nil_append, List.append_nil, List.length_cons, List.length_nil, List.replicate_succ, List.replicate_zero, Nat.reduceAdd, Nat.reduceSub]
        rcases Nat.eq_zero_or_pos l with e | e
        · subst e
          rw [Nat.gcd_zero_right] at g3
          refine zz_if_eq (tgt := 38) dX6_cut_19 (by decide) (fun h2 => ?_) (fun h2 => ?_)
          · exact fin g _ _ _ g3
          · exact absurd rfl h2
        · skip
          refine zz_if_eq (tgt := 38) dX6_cut_19 (by decide) (fun h2 => ?_) (fun h2 => ?_)
          · exact absurd h2 (nI_ne0 e g2)
          · skip
            refine zz_iload_n rfl dX6_cut_22 ?_
            refine zz_iload_n rfl dX6_cut_23 ?_
            refine zz_irem (nI_ne0 e g2) dX6_cut_24 ?_
            refine zz_istore dX6_cut_25 (by decide) ?_
            refine zz_iload_n rfl dX6_cut_27 ?_
            refine zz_istore_n dX6_cut_28 (by decide) ?_
            refine zz_iload rfl dX6_cut_29 ?_
            refine zz_istore_n dX6_cut_31 (by decide) ?_
            refine zz_iinc dX6_cut_32 rfl (congrArg (HAdd.hAdd _) (show Int32.ofInt 1 = 1 by decide)) (by decide) ?_
            refine zz_goto (tgt := 12) dX6_cut_35 (by decide) ?_
            try dsimp only [zz_s1, zz_s2, zz_kill, zz_ent, zz_fl, List.set_cons_zero, List.set_cons_succ, List.getElem?_cons_zero, List.getElem?_cons_succ, Option.toList_some, Option.toList_none, List.cons_append, List.nil_append, List.append_nil, List.length_cons, List.length_nil, List.replicate_succ, List.replicate_zero, Nat.reduceAdd, Nat.reduceSub]
            rw [nI_1, show jv_rem (nI g) (nI l) = nI (g % l) from pk_rem g1 e g2]
            have hlt : g % l < l := Nat.mod_lt _ e
            rcases Nat.lt_or_ge g l with q | q
            · refine ih (s + 1) l (g % l) k _ (by omega) g2 (by omega) (by rw [← gcd_step]; exact g3) ?_ (fun _ => by have := g6 q; omega) (fun z => by omega)
              rw [Nat.mod_eq_of_lt q, Nat.mul_comm]
              exact g4
            · have hk : k ≤ r + 1 := g5 q
              have h2r : 2 * (g % l) < g := by
                have e1 := Nat.div_add_mod g l
                have e2 : 1 ≤ g / l := Nat.div_pos q e
                have e3 : l * 1 ≤ l * (g / l) := Nat.mul_le_mul_left _ e2
                omega
              have hprod : l * (g % l) * 2 < 2 ^ k := by
                have e1 : l * (2 * (g % l)) ≤ l * g := Nat.mul_le_mul_left _ (by omega)
                rw [Nat.mul_comm g l] at g4
                have e2 : l * (g % l) * 2 = l * (2 * (g % l)) := by rw [Nat.mul_assoc, Nat.mul_comm (g % l) 2]
                omega
              have hk1 : 1 ≤ k := by
                refine Nat.pos_of_ne_zero fun z => ?_
                rw [z] at g4
                have : 0 < g * l := Nat.mul_pos (by omega) e
                omega
              have hpk : 2 ^ k = 2 ^ (k - 1) * 2 := by rw [← Nat.pow_succ]; congr 1; omega
              exact ih (s + 1) l (g % l) (k - 1) _ (by omega) g2 (by omega) (by rw [← gcd_step]; exact g3) (by omega) (fun _ => by omega) (fun z => by omega)
  have hprod : A * B < 2 ^ 25 * 2 ^ 25 := Nat.mul_lt_mul'' hA hB
  exact loop 64 0 A B 50 _ (by omega) (by omega) (by omega) rfl (by omega) (fun _ => by decide) (fun _ => by decide)
theorem sp_measure (d : Nat) (hO : OK M) {l n : Nat} {kd ag : Int32} {E : Nat → Nat → Bool} {sg : Nat → Int32} {rw : Nat → Nat → Int32} (hl : l < 8) (hn1 : 1 ≤ n) (hn : n ≤ 24) (hr : rok rw) (hc : CL I l n kd ag E sg rw)
    (h1 : ff n E rw = -1 → ∀ I' : zz_I, (∀ c, c ≠ 16 → I' c = I c) → I' 16 0 = nI ((bs rw n).1 / Nat.gcd (bs rw n).1 (bs rw n).2.1) → I' 16 1 = nI ((bs rw n).2.1 / Nat.gcd (bs rw n).1 (bs rw n).2.1) → I' 16 2 = nI (bs rw n).2.2 → Q (some (.int 1)) M I' J) (h2 : ¬ ff n E rw = -1 → Q (some (.int 0)) M I J) : zz_D mX6_measure (d + 2) [.ref 16, .ref (LN l)] M I J Q := by
  have h14 : 16 < LN l := by unfold LN; omega
  have lt25 : ∀ a, a < 25 → (nI a).toNatClampNeg < 25 := fun a ha => by rw [nI_clamp (by omega)]; exact ha
  refine zz_D_of rfl (Nat.le_of_ble_eq_true rfl) ?_
  try dsimp only [zz_s1, zz_s2, zz_kill, zz_ent, zz_fl, List.set_cons_zero, List.set_cons_succ, List.getElem?_cons_zero, List.getElem?_cons_succ, Option.toList_some, Option.toList_none, List.cons_append, List.nil_append, List.append_nil, List.length_cons, List.length_nil, List.replicate_succ, List.replicate_zero, Nat.reduceAdd, Nat.reduceSub]
  refine zz_aload_n rfl dX6_measure_0 ?_
  refine zz_aload_n rfl dX6_measure_1 ?_
  try dsimp only [zz_s1, zz_s2, zz_kill, zz_ent, zz_fl, List.set_cons_zero, List.set_cons_succ, List.getElem?_cons_zero, List.getElem?_cons_succ, Option.toList_some, Option.toList_none, List.cons_append, List.nil_append, List.append_nil, List.length_cons, List.length_nil, List.replicate_succ, List.replicate_zero, Nat.reduceAdd, Nat.reduceSub]
  refine zz_cV1 dX6_measure_2 lX6_38 rfl (os_16 hO) rfl rfl (Nat.le_of_ble_eq_true rfl) (Nat.le_of_ble_eq_true rfl) ?_
  refine sp_firstFlaw d hO hl hn hc ?_
  try dsimp only [zz_s1, zz_s2, zz_kill, zz_ent, zz_fl, List.set_cons_zero, List.set_cons_succ, List.getElem?_cons_zero, List.getElem?_cons_succ, Option.toList_some, Option.toList_none, List.cons_append, List.nil_append, List.append_nil, List.length_cons, List.length_nil, List.replicate_succ, List.replicate_zero, Nat.reduceAdd, Nat.reduceSub]
  refine zz_iconst (v := (-1)) (by decide) dX6_measure_5 ?_
  try dsimp only [zz_s1, zz_s2, zz_kill, zz_ent, zz_fl, List.set_cons_zero, List.set_cons_succ, List.getElem?_cons_zero, List.getElem?_cons_succ, Option.toList_some, Option.toList_none, List.cons_append, List.nil_append, List.append_nil, List.length_cons, List.length_nil, List.replicate_succ, List.replicate_zero, Nat.reduceAdd, Nat.reduceSub]
  refine zz_icmp_eq (tgt := 11) dX6_measure_6 (by decide) (fun h => ?_) (fun h => ?_)
  rotate_left
  · refine zz_iconst (v := 0) (by decide) dX6_measure_9 ?_
    refine zz_ireturn dX6_measure_10 rfl (by first | rfl | decide | assumption) ?_
    exact h2 h
  have hok := ff_ok hn h
  refine zz_aload_n rfl dX6_measure_11 ?_
  refine zz_iconst (v := 0) (by decide) dX6_measure_12 ?_
  refine zz_puti dX6_measure_13 fX6_9 rfl (fun q h => by cases h; rfl) (os_16 hO) ?_
  refine zz_aload_n rfl dX6_measure_16 ?_
  refine zz_iconst (v := 1) (by decide) dX6_measure_17 ?_
  refine zz_puti dX6_measure_18 fX6_15 rfl (fun q h => by cases h; rfl) (os_16 hO) ?_
  refine zz_aload_n rfl dX6_measure_21 ?_
  refine zz_getr dX6_measure_22 fX6_30 (fun _ _ _ _ => rfl) (ol_obj hO hl) (olr_num hO hl) ?_
  refine zz_bipush (v := 24) (by decide) dX6_measure_25 ?_
  refine zz_aaldI dX6_measure_27 (ol_num hO hl) (vp_in_nI (n := 24) (by decide) (by decide)) (olr_row hO hl (lt25 24 (by decide))) ?_
  refine zz_astore_n dX6_measure_28 (by decide) ?_
  refine zz_iconst (v := 0) (by decide) dX6_measure_29 ?_
  refine zz_istore_n dX6_measure_30 (by decide) ?_
  try dsimp only [zz_s1, zz_s2, zz_kill, zz_ent, zz_fl, List.set_cons_zero, List.set_cons_succ, List.getElem?_cons_zero, List.getElem?_cons_succ, Option.toList_some, Option.toList_none, List.cons_append, List.nil_append, List.append_nil, List.length_cons, List.length_nil, List.replicate_succ, List.replicate_zero, Nat.reduceAdd, Nat.reduceSub]
  have loop : ∀ (q a : Nat) (Ix : zz_I) (z4 z5 : Option Value), a + q = n → (∀ c, c ≠ 16 → Ix c = I c) → Ix 16 0 = nI (bs rw a).1 → Ix 16 1 = nI (bs rw a).2.1 → (1 ≤ a → Ix 16 2 = nI (bs rw a).2.2) → zz_G mX6_measure (d + 2) 0 31 [some (.ref 16), some (.ref (LN l)), some (.ref (LN l + 4 + (nI 24).toNatClampNeg)), some (.int (nI a)), z4, z5] [] M Ix J Q := by
    intro q
    induction q with
    | zero =>
      intro a Ix z4 z5 ha hf g0 g1 g2
      have ea : a = n := by omega
      subst ea
      have hb := bs_le hr a hn
      have hp := bs_pos hr hn hok a (Nat.le_refl _)
      refine zz_iload_n rfl dX6_measure_31 ?_
      refine zz_aload_n rfl dX6_measure_32 ?_
      refine zz_geti dX6_measure_33 fX6_21 rfl (ol_obj hO hl) ?_
      try dsimp only [zz_s1, zz_s2, zz_kill, zz_ent, zz_fl, List.set_cons_zero, List.set_cons_succ, List.getElem?_cons_zero, List.getElem?_cons_succ, Option.toList_some, Option.toList_none, List.cons_append, List.nil_append, List.append_nil, List.length_cons, List.length_nil, List.replicate_succ, List.replicate_zero, Nat.reduceAdd, Nat.reduceSub]
      rw [show Ix (LN l) = I (LN l) from hf _ (by omega), hc.2.1]
      refine zz_icmp_ge (tgt := 84) dX6_measure_36 (by decide) (fun h3 => ?_) (fun h3 => ?_)
      · refine zz_aload_n rfl dX6_measure_84 ?_
        try dsimp only [zz_s1, zz_s2, zz_kill, zz_ent, zz_fl, List.set_cons_zero, List.set_cons_succ, List.getElem?_cons_zero, List.getElem?_cons_succ, Option.toList_some, Option.toList_none, List.cons_append, List.nil_append, List.append_nil, List.length_cons, List.length_nil, List.replicate_succ, List.replicate_zero, Nat.reduceAdd, Nat.reduceSub]
        refine zz_cV0 dX6_measure_85 lX6_46 rfl (os_16 hO) rfl rfl (Nat.le_of_ble_eq_true rfl) (Nat.le_of_ble_eq_true rfl) ?_
        refine sp_cut (d + 1) hO g0 g1 (by omega) (by omega) hp.1 ?_
        try dsimp only [zz_s1, zz_s2, zz_kill, zz_ent, zz_fl, List.set_cons_zero, List.set_cons_succ, List.getElem?_cons_zero, List.getElem?_cons_succ, Option.toList_some, Option.toList_none, List.cons_append, List.nil_append, List.append_nil, List.length_cons, List.length_nil, List.replicate_succ, List.replicate_zero, Nat.reduceAdd, Nat.reduceSub]
        refine zz_iconst (v := 1) (by decide) dX6_measure_88 ?_
        refine zz_ireturn dX6_measure_89 rfl (by first | rfl | decide | assumption) ?_
        refine h1 h _ (fun c c1 => ?_) ?_ ?_ ?_
        · rw [zz_ui_ne _ _ _ c1, zz_ui_ne _ _ _ c1]; exact hf c c1
        · rw [zz_ui_at, pk_un (by decide), zz_ui_at, pk_us]
        · rw [zz_ui_at, pk_us]
        · rw [zz_ui_at, pk_un (by decide), zz_ui_at, pk_un (by decide)]; exact g2 hn1
      · exact absurd (nI_le (Nat.le_refl _) (by omega)) h3
    | succ q ih =>
      intro a Ix z4 z5 ha hf g0 g1 g2
      have hb := bs_le hr a (by omega)
      have row6 : ∀ a, a < 25 → ∀ i, i < 6 → Ix (LN l + 4 + (nI a).toNatClampNeg) i = rw a i := fun a ha i hi => by rw [nI_clamp (by omega), hf _ (by omega)]; exact hc.2.2.2.2.2 a ha i hi
      have o1 := ov_le hr (a := a) (by omega)
      have u1 := jt_nI hr (a := a) (by omega)
      have ra := ol_row hO hl (lt25 a (by omega))
      have rh := ol_row hO hl (lt25 24 (by decide))
      refine zz_iload_n rfl dX6_measure_31 ?_
      refine zz_aload_n rfl dX6_measure_32 ?_
      refine zz_geti dX6_measure_33 fX6_21 rfl (ol_obj hO hl) ?_
      try dsimp only [zz_s1, zz_s2, zz_kill, zz_ent, zz_fl, List.set_cons_zero, List.set_cons_succ, List.getElem?_cons_zero, List.getElem?_cons_succ, Option.toList_some, Option.toList_none, List.cons_append, List.nil_append, List.append_nil, List.length_cons, List.length_nil, List.replicate_succ, List.replicate_zero, Nat.reduceAdd, Nat.reduceSub]
      rw [show Ix (LN l) = I (LN l) from hf _ (by omega), hc.2.1]
      refine zz_icmp_ge (tgt := 84) dX6_measure_36 (by decide) (fun h3 => ?_) (fun h3 => ?_)
      · exact absurd h3 (nI_ge (by omega) (by omega))
      · skip
        refine zz_aload_n rfl dX6_measure_39 ?_
        refine zz_getr dX6_measure_40 fX6_30 (fun _ _ _ _ => rfl) (ol_obj hO hl) (olr_num hO hl) ?_
        refine zz_iload_n rfl dX6_measure_43 ?_
        refine zz_aaldI dX6_measure_44 (ol_num hO hl) (vp_in_nI (show a < 25 by omega) (by decide)) (olr_row hO hl (lt25 a (by omega))) ?_
        refine zz_astore dX6_measure_45 (by decide) ?_
        refine zz_aload rfl dX6_measure_47 ?_
        refine zz_aload_n rfl dX6_measure_49 ?_
        try dsimp only [zz_s1, zz_s2, zz_kill, zz_ent, zz_fl, List.set_cons_zero, List.set_cons_succ, List.getElem?_cons_zero, List.getElem?_cons_succ, Option.toList_some, Option.toList_none, List.cons_append, List.nil_append, List.append_nil, List.length_cons, List.length_nil, List.replicate_succ, List.replicate_zero, Nat.reduceAdd, Nat.reduceSub]
        refine zz_cS2 dX6_measure_50 lX6_34 rfl (Nat.le_of_ble_eq_true rfl) (Nat.le_of_ble_eq_true rfl) ?_
        refine sp_X6_product (d + 1) ra rh (row6 a (by omega)) (row6 24 (by decide)) ?_
        try dsimp only [zz_s1, zz_s2, zz_kill, zz_ent, zz_fl, List.set_cons_zero, List.set_cons_succ, List.getElem?_cons_zero, List.getElem?_cons_succ, Option.toList_some, Option.toList_none, List.cons_append, List.nil_append, List.append_nil, List.length_cons, List.length_nil, List.replicate_succ, List.replicate_zero, Nat.reduceAdd, Nat.reduceSub]
        refine zz_istore dX6_measure_53 (by decide) ?_
        refine zz_aload_n rfl dX6_measure_55 ?_
        refine zz_aload rfl dX6_measure_56 ?_
        refine zz_aload rfl dX6_measure_58 ?_
        try dsimp only [zz_s1, zz_s2, zz_kill, zz_ent, zz_fl, List.set_cons_zero, List.set_cons_succ, List.getElem?_cons_zero, List.getElem?_cons_succ, Option.toList_some, Option.toList_none, List.cons_append, List.nil_append, List.append_nil, List.length_cons, List.length_nil, List.replicate_succ, List.replicate_zero, Nat.reduceAdd, Nat.reduceSub]
        refine zz_cS2 dX6_measure_60 lX6_34 rfl (Nat.le_of_ble_eq_true rfl) (Nat.le_of_ble_eq_true rfl) ?_
        refine sp_X6_product (d + 1) ra ra (row6 a (by omega)) (row6 a (by omega)) ?_
        try dsimp only [zz_s1, zz_s2, zz_kill, zz_ent, zz_fl, List.set_cons_zero, List.set_cons_succ, List.getElem?_cons_zero, List.getElem?_cons_succ, Option.toList_some, Option.toList_none, List.cons_append, List.nil_append, List.append_nil, List.length_cons, List.length_nil, List.replicate_succ, List.replicate_zero, Nat.reduceAdd, Nat.reduceSub]
        refine zz_aload_n rfl dX6_measure_63 ?_
        refine zz_aload_n rfl dX6_measure_64 ?_
        try dsimp only [zz_s1, zz_s2, zz_kill, zz_ent, zz_fl, List.set_cons_zero, List.set_cons_succ, List.getElem?_cons_zero, List.getElem?_cons_succ, Option.toList_some, Option.toList_none, List.cons_append, List.nil_append, List.append_nil, List.length_cons, List.length_nil, List.replicate_succ, List.replicate_zero, Nat.reduceAdd, Nat.reduceSub]
        refine zz_cS2 dX6_measure_65 lX6_34 rfl (Nat.le_of_ble_eq_true rfl) (Nat.le_of_ble_eq_true rfl) ?_
        refine sp_X6_product (d + 1) rh rh (row6 24 (by decide)) (row6 24 (by decide)) ?_
        try dsimp only [zz_s1, zz_s2, zz_kill, zz_ent, zz_fl, List.set_cons_zero, List.set_cons_succ, List.getElem?_cons_zero, List.getElem?_cons_succ, Option.toList_some, Option.toList_none, List.cons_append, List.nil_append, List.append_nil, List.length_cons, List.length_nil, List.replicate_succ, List.replicate_zero, Nat.reduceAdd, Nat.reduceSub]
        refine zz_imul dX6_measure_68 ?_
        refine zz_iload rfl dX6_measure_69 ?_
        refine zz_iload rfl dX6_measure_71 ?_
        refine zz_imul dX6_measure_73 ?_
        refine zz_iload_n rfl dX6_measure_74 ?_
        try dsimp only [zz_s1, zz_s2, zz_kill, zz_ent, zz_fl, List.set_cons_zero, List.set_cons_succ, List.getElem?_cons_zero, List.getElem?_cons_succ, Option.toList_some, Option.toList_none, List.cons_append, List.nil_append, List.append_nil, List.length_cons, List.length_nil, List.replicate_succ, List.replicate_zero, Nat.reduceAdd, Nat.reduceSub]
        rw [(sq_nI hr (show a < 25 by omega)).1, (sq_nI hr (show 24 < 25 by decide)).1, pk_mul, u1.1]
        refine zz_cV3 dX6_measure_75 lX6_42 rfl (os_16 hO) rfl rfl (Nat.le_of_ble_eq_true rfl) (Nat.le_of_ble_eq_true rfl) ?_
        refine sp_offer (d + 1) hO (o := ov rw a) g0 g1 (by omega) (by omega) (by omega) (by omega) (fun hy => ?_) (fun hx => ?_)
        try dsimp only [zz_s1, zz_s2, zz_kill, zz_ent, zz_fl, List.set_cons_zero, List.set_cons_succ, List.getElem?_cons_zero, List.getElem?_cons_succ, Option.toList_some, Option.toList_none, List.cons_append, List.nil_append, List.append_nil, List.length_cons, List.length_nil, List.replicate_succ, List.replicate_zero, Nat.reduceAdd, Nat.reduceSub]
        · refine zz_iinc dX6_measure_78 rfl (congrArg (HAdd.hAdd _) (show Int32.ofInt 1 = 1 by decide)) (by decide) ?_
          refine zz_goto (tgt := 31) dX6_measure_81 (by decide) ?_
          try dsimp only [zz_s1, zz_s2, zz_kill, zz_ent, zz_fl, List.set_cons_zero, List.set_cons_succ, List.getElem?_cons_zero, List.getElem?_cons_succ, Option.toList_some, Option.toList_none, List.cons_append, List.nil_append, List.append_nil, List.length_cons, List.length_nil, List.replicate_succ, List.replicate_zero, Nat.reduceAdd, Nat.reduceSub]
          rw [nI_1]
          refine ih (a + 1) _ _ _ (by omega) (fun c c1 => ?_) ?_ ?_ (fun _ => ?_)
          · rw [zz_ui_ne _ _ _ c1, zz_ui_ne _ _ _ c1, zz_ui_ne _ _ _ c1]; exact hf c c1
          · unfold bs; rw [if_pos hy]; simp [zz_ui_at, upd]
          · unfold bs; rw [if_pos hy]; simp [zz_ui_at, upd]
          · unfold bs; rw [if_pos hy]; simp [zz_ui_at, upd]
        · try dsimp only [zz_s1, zz_s2, zz_kill, zz_ent, zz_fl, List.set_cons_zero, List.set_cons_succ, List.getElem?_cons_zero, List.getElem?_cons_succ, Option.toList_some, Option.toList_none, List.cons_append, List.nil_append, List.append_nil, List.length_cons, List.length_nil, List.replicate_succ, List.replicate_zero, Nat.reduceAdd, Nat.reduceSub]
          refine zz_iinc dX6_measure_78 rfl (congrArg (HAdd.hAdd _) (show Int32.ofInt 1 = 1 by decide)) (by decide) ?_
          refine zz_goto (tgt := 31) dX6_measure_81 (by decide) ?_
          try dsimp only [zz_s1, zz_s2, zz_kill, zz_ent, zz_fl, List.set_cons_zero, List.set_cons_succ, List.getElem?_cons_zero, List.getElem?_cons_succ, Option.toList_some, Option.toList_none, List.cons_append, List.nil_append, List.append_nil, List.length_cons, List.length_nil, List.replicate_succ, List.replicate_zero, Nat.reduceAdd, Nat.reduceSub]
          rw [nI_1]
          have hb1 : bs rw (a + 1) = bs rw a := by
            show (if _ then _ else _) = _
            rw [if_neg hx]
          refine ih (a + 1) Ix _ _ (by omega) hf (by rw [hb1]; exact g0) (by rw [hb1]; exact g1) (fun _ => ?_)
          rw [hb1]
          refine g2 (Nat.pos_of_ne_zero fun e => hx ?_)
          subst e
          have hpos := u1.2.2 (hok 0 (by omega))
          show 0 * _ < _ * 1
          omega
  refine loop n 0 _ _ _ (by omega) (fun c c1 => ?_) ?_ ?_ (fun q => absurd q (by decide))
  · rw [zz_ui_ne _ _ _ c1, zz_ui_ne _ _ _ c1]
  · rw [zz_ui_at, pk_un (by decide), zz_ui_at, pk_us]; rfl
  · rw [zz_ui_at, pk_us]; rfl
end PBound

