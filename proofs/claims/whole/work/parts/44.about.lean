/-! ===== about ===== -/
theorem ct_drop {x : Int64} (h : ¬ x = 0) : fb_ct (bl (x &&& (x - 1))) 64 + 1 = fb_ct (bl x) 64 := by
  obtain ⟨k, hk, hl⟩ := lowb_ex h
  have h1 := fb_ct_upd (bl x) false hk
  have h2 : fb_ct (bl (x &&& (x - 1))) 64 = fb_ct (fun i => if i = k then false else bl x i) 64 := by
    apply fb_ct_cong
    intro i hi
    rw [bl_drop hl]
    by_cases e : i = k <;> simp [e]
  rw [h2]
  rw [hl.1] at h1
  simpa using h1
theorem ct_zero64 : fb_ct (bl 0) 64 = 0 := fb_ct_zero.mpr (fun k _ => bl_0 k)
theorem bt_small {x : Int32} (h : bt x 31 = false) : ∃ m, m < 2 ^ 31 ∧ x = nI m := by
  obtain ⟨m, hm, rfl⟩ := wb_of32 x
  refine ⟨m, ?_, rfl⟩
  rw [bt_nI] at h
  have h31 : m.testBit 31 = false := by simpa using h
  refine Nat.lt_of_not_le fun q => ?_
  have : m.testBit 31 = true := by
    rw [Nat.testBit_eq_decide_div_mod_eq]
    simp
    omega
  rw [this] at h31
  cases h31
theorem bl_i2l {x : Int32} (h : bt x 31 = false) (i : Nat) : bl x.toInt64 i = bt x i := by
  obtain ⟨m, hm, rfl⟩ := bt_small h
  rw [nI_l hm, bl_lN, bt_nI]
  by_cases h1 : i < 32
  · simp [h1, show i < 64 by omega]
  · have : m.testBit i = false := Nat.testBit_lt_two_pow (Nat.lt_of_lt_of_le hm (Nat.pow_le_pow_right (by decide) (by omega)))
    simp [h1, this]
theorem ct_i2l {x : Int32} (h : ∀ i, 24 ≤ i → bt x i = false) : fb_ct (bl x.toInt64) 64 = fb_ct (bt x) 32 := by
  have e : fb_ct (bl x.toInt64) 64 = fb_ct (bt x) 64 := fb_ct_cong (fun i _ => bl_i2l (h 31 (by decide)) i)
  rw [e, show (64 : Nat) = 32 + 32 from rfl, fb_ct_split (bt x) 32 32]
  have : fb_ct (fun k => bt x (32 + k)) 32 = 0 := fb_ct_zero.mpr (fun k _ => h _ (by omega))
  omega
/-- all the signs of the first letters -/
def orS (s : Nat → Int32) : Nat → Int32
  | 0 => 0
  | a + 1 => orS s a ||| s a
theorem orS_hi {s : Nat → Int32} {n : Nat} (h : ∀ a, a < n → ∀ i, 24 ≤ i → bt (s a) i = false) : ∀ a, a ≤ n → ∀ i, 24 ≤ i → bt (orS s a) i = false := by
  intro a
  induction a with
  | zero => intro _ i _; exact b_0 i
  | succ a ih =>
    intro ha i hi
    show bt (orS s a ||| s a) i = false
    rw [b_or, ih (by omega) i hi, h a (by omega) i hi]
    rfl
section PAbout
variable {M : zz_M} {I : zz_I} {J : zz_J} {Q : zz_Q} {n : Nat} {kd ag : Int32} {E : Nat → Nat → Bool} {sg : Nat → Int32} {rw : Nat → Nat → Int32}
theorem sp_bits (d : Nat) {x : Int64} (hQ : Q (some (.int (nI (fb_ct (bl x) 64)))) M I J) : zz_D mX10_bits d [.long x] M I J Q := by
  refine zz_D_of rfl (Nat.le_of_ble_eq_true rfl) ?_
  try dsimp only [zz_s1, zz_s2, zz_kill, zz_ent, zz_fl, List.set_cons_zero, List.set_cons_succ, List.getElem?_cons_zero, List.getElem?_cons_succ, Option.toList_some, Option.toList_none, List.cons_append, List.nil_append, List.append_nil, List.length_cons, List.length_nil, List.replicate_succ, List.replicate_zero, Nat.reduceAdd, Nat.reduceSub]
  refine zz_iconst (v := 0) (by decide) dX10_bits_0 ?_
  refine zz_istore_n dX10_bits_1 (by decide) ?_
  refine zz_lload_n rfl dX10_bits_2 ?_
  refine zz_lstore_n dX10_bits_3 (by decide) ?_
  try dsimp only [zz_s1, zz_s2, zz_kill, zz_ent, zz_fl, List.set_cons_zero, List.set_cons_succ, List.getElem?_cons_zero, List.getElem?_cons_succ, Option.toList_some, Option.toList_none, List.cons_append, List.nil_append, List.append_nil, List.length_cons, List.length_nil, List.replicate_succ, List.replicate_zero, Nat.reduceAdd, Nat.reduceSub]
  have loop : ∀ (q c : Nat) (y : Int64), fb_ct (bl y) 64 = q → c + q = fb_ct (bl x) 64 → zz_G mX10_bits d 0 4 [some (.long x), none, some (.int (nI c)), some (.long y), none] [] M I J Q := by
    intro q
    induction q with
    | zero =>
      intro c y hy hc
      have y0 : y = 0 := bl_zero.mpr (fun i => by
        by_cases hi : i < 64
        · exact fb_ct_zero.mp hy i hi
        · exact bl_big (by omega))
      subst y0
      refine zz_lload_n rfl dX10_bits_4 ?_
      refine zz_lconst (v := 0) (by decide) dX10_bits_5 ?_
      refine zz_lcmp dX10_bits_6 ?_
      try dsimp only [zz_s1, zz_s2, zz_kill, zz_ent, zz_fl, List.set_cons_zero, List.set_cons_succ, List.getElem?_cons_zero, List.getElem?_cons_succ, Option.toList_some, Option.toList_none, List.cons_append, List.nil_append, List.append_nil, List.length_cons, List.length_nil, List.replicate_succ, List.replicate_zero, Nat.reduceAdd, Nat.reduceSub]
      refine zz_if_eq (tgt := 22) dX10_bits_7 (by decide) (fun h => ?_) (fun h => ?_)
      · refine zz_iload_n rfl dX10_bits_22 ?_
        refine zz_ireturn dX10_bits_23 rfl (by first | rfl | decide | assumption) ?_
        rw [show c = fb_ct (bl x) 64 by omega]
        exact hQ
      · exact absurd (cmp_eq.mpr rfl) h
    | succ q ih =>
      intro c y hy hc
      have y0 : ¬ y = 0 := fun e => by rw [e, ct_zero64] at hy; omega
      refine zz_lload_n rfl dX10_bits_4 ?_
      refine zz_lconst (v := 0) (by decide) dX10_bits_5 ?_
      refine zz_lcmp dX10_bits_6 ?_
      try dsimp only [zz_s1, zz_s2, zz_kill, zz_ent, zz_fl, List.set_cons_zero, List.set_cons_succ, List.getElem?_cons_zero, List.getElem?_cons_succ, Option.toList_some, Option.toList_none, List.cons_append, List.nil_append, List.append_nil, List.length_cons, List.length_nil, List.replicate_succ, List.replicate_zero, Nat.reduceAdd, Nat.reduceSub]
      refine zz_if_eq (tgt := 22) dX10_bits_7 (by decide) (fun h => ?_) (fun h => ?_)
      · exact absurd (cmp_eq.mp h) y0
      · skip
        refine zz_iinc dX10_bits_10 rfl (congrArg (HAdd.hAdd _) (show Int32.ofInt 1 = 1 by decide)) (by decide) ?_
        refine zz_lload_n rfl dX10_bits_13 ?_
        refine zz_lload_n rfl dX10_bits_14 ?_
        refine zz_lconst (v := 1) (by decide) dX10_bits_15 ?_
        refine zz_lsub dX10_bits_16 ?_
        refine zz_land dX10_bits_17 ?_
        refine zz_lstore_n dX10_bits_18 (by decide) ?_
        refine zz_goto (tgt := 4) dX10_bits_19 (by decide) ?_
        try dsimp only [zz_s1, zz_s2, zz_kill, zz_ent, zz_fl, List.set_cons_zero, List.set_cons_succ, List.getElem?_cons_zero, List.getElem?_cons_succ, Option.toList_some, Option.toList_none, List.cons_append, List.nil_append, List.append_nil, List.length_cons, List.length_nil, List.replicate_succ, List.replicate_zero, Nat.reduceAdd, Nat.reduceSub]
        rw [nI_1]
        refine ih (c + 1) _ ?_ (by omega)
        have := ct_drop y0
        omega
  exact loop _ 0 x rfl (by omega)
theorem sp_X3_pairs (d : Nat) (hO : OK M) {l : Nat} (hl : l < 8) (hn : n ≤ 24) (hc : CL I l n kd ag E sg rw) (hQ : Q (some (.int (nI (fb_sm (fun a => fb_ct (E a) 32) n) / 2))) M I J) : zz_D mX3_pairs (d + 1) [.ref (LN l)] M I J Q := by
  refine zz_D_of rfl (Nat.le_of_ble_eq_true rfl) ?_
  try dsimp only [zz_s1, zz_s2, zz_kill, zz_ent, zz_fl, List.set_cons_zero, List.set_cons_succ, List.getElem?_cons_zero, List.getElem?_cons_succ, Option.toList_some, Option.toList_none, List.cons_append, List.nil_append, List.append_nil, List.length_cons, List.length_nil, List.replicate_succ, List.replicate_zero, Nat.reduceAdd, Nat.reduceSub]
  refine zz_iconst (v := 0) (by decide) dX3_pairs_0 ?_
  refine zz_istore_n dX3_pairs_1 (by decide) ?_
  refine zz_iconst (v := 0) (by decide) dX3_pairs_2 ?_
  refine zz_istore_n dX3_pairs_3 (by decide) ?_
  try dsimp only [zz_s1, zz_s2, zz_kill, zz_ent, zz_fl, List.set_cons_zero, List.set_cons_succ, List.getElem?_cons_zero, List.getElem?_cons_succ, Option.toList_some, Option.toList_none, List.cons_append, List.nil_append, List.append_nil, List.length_cons, List.length_nil, List.replicate_succ, List.replicate_zero, Nat.reduceAdd, Nat.reduceSub]
  have loop : ∀ (q a : Nat), a + q = n → zz_G mX3_pairs (d + 1) 0 4 [some (.ref (LN l)), some (.int (nI (fb_sm (fun a => fb_ct (E a) 32) a))), some (.int (nI a))] [] M I J Q := by
    intro q
    induction q with
    | zero =>
      intro a ha
      have ea : a = n := by omega
      subst ea
      refine zz_iload_n rfl dX3_pairs_4 ?_
      refine zz_aload_n rfl dX3_pairs_5 ?_
      refine zz_geti dX3_pairs_6 fX3_15 rfl (ol_obj hO hl) ?_
      try dsimp only [zz_s1, zz_s2, zz_kill, zz_ent, zz_fl, List.set_cons_zero, List.set_cons_succ, List.getElem?_cons_zero, List.getElem?_cons_succ, Option.toList_some, Option.toList_none, List.cons_append, List.nil_append, List.append_nil, List.length_cons, List.length_nil, List.replicate_succ, List.replicate_zero, Nat.reduceAdd, Nat.reduceSub]
      rw [hc.2.1]
      refine zz_icmp_ge (tgt := 30) dX3_pairs_9 (by decide) (fun h => ?_) (fun h => ?_)
      · refine zz_iload_n rfl dX3_pairs_30 ?_
        refine zz_iconst (v := 2) (by decide) dX3_pairs_31 ?_
        refine zz_idiv (by decide) dX3_pairs_32 ?_
        refine zz_ireturn dX3_pairs_33 rfl (by first | rfl | decide | assumption) ?_
        exact hQ
      · exact absurd (nI_le (Nat.le_refl _) (by omega)) h
    | succ q ih =>
      intro a ha
      refine zz_iload_n rfl dX3_pairs_4 ?_
      refine zz_aload_n rfl dX3_pairs_5 ?_
      refine zz_geti dX3_pairs_6 fX3_15 rfl (ol_obj hO hl) ?_
      try dsimp only [zz_s1, zz_s2, zz_kill, zz_ent, zz_fl, List.set_cons_zero, List.set_cons_succ, List.getElem?_cons_zero, List.getElem?_cons_succ, Option.toList_some, Option.toList_none, List.cons_append, List.nil_append, List.append_nil, List.length_cons, List.length_nil, List.replicate_succ, List.replicate_zero, Nat.reduceAdd, Nat.reduceSub]
      rw [hc.2.1]
      refine zz_icmp_ge (tgt := 30) dX3_pairs_9 (by decide) (fun h => ?_) (fun h => ?_)
      · exact absurd h (nI_ge (by omega) (by omega))
      · skip
        refine zz_iload_n rfl dX3_pairs_12 ?_
        refine zz_aload_n rfl dX3_pairs_13 ?_
        refine zz_getr dX3_pairs_14 fX3_21 (fun _ _ _ _ => rfl) (ol_obj hO hl) (olr_near hO hl) ?_
        refine zz_iload_n rfl dX3_pairs_17 ?_
        refine zz_iald dX3_pairs_18 (ol_near hO hl) (vp_in_nI (show a < 24 by omega) (by decide)) ?_
        try dsimp only [zz_s1, zz_s2, zz_kill, zz_ent, zz_fl, List.set_cons_zero, List.set_cons_succ, List.getElem?_cons_zero, List.getElem?_cons_succ, Option.toList_some, Option.toList_none, List.cons_append, List.nil_append, List.append_nil, List.length_cons, List.length_nil, List.replicate_succ, List.replicate_zero, Nat.reduceAdd, Nat.reduceSub]
        refine zz_cS1 dX3_pairs_19 lX3_44 rfl (Nat.le_of_ble_eq_true rfl) (Nat.le_of_ble_eq_true rfl) ?_
        refine sp_bitCountI d ?_
        try dsimp only [zz_s1, zz_s2, zz_kill, zz_ent, zz_fl, List.set_cons_zero, List.set_cons_succ, List.getElem?_cons_zero, List.getElem?_cons_succ, Option.toList_some, Option.toList_none, List.cons_append, List.nil_append, List.append_nil, List.length_cons, List.length_nil, List.replicate_succ, List.replicate_zero, Nat.reduceAdd, Nat.reduceSub]
        refine zz_iadd dX3_pairs_22 ?_
        refine zz_istore_n dX3_pairs_23 (by decide) ?_
        refine zz_iinc dX3_pairs_24 rfl (congrArg (HAdd.hAdd _) (show Int32.ofInt 1 = 1 by decide)) (by decide) ?_
        refine zz_goto (tgt := 4) dX3_pairs_27 (by decide) ?_
        try dsimp only [zz_s1, zz_s2, zz_kill, zz_ent, zz_fl, List.set_cons_zero, List.set_cons_succ, List.getElem?_cons_zero, List.getElem?_cons_succ, Option.toList_some, Option.toList_none, List.cons_append, List.nil_append, List.append_nil, List.length_cons, List.length_nil, List.replicate_succ, List.replicate_zero, Nat.reduceAdd, Nat.reduceSub]
        rw [nI_1, nI_clamp (by omega), fb_ct_cong (p := bt (I (LN l + 1) a)) (q := E a) (fun i hi => hc.2.2.2.1 a (by omega) i hi), nI_add]
        exact ih (a + 1) (by omega)
  exact loop n 0 (by omega)
theorem sp_X3_signsInAll (d : Nat) (hO : OK M) {l : Nat} (hl : l < 8) (hn : n ≤ 24) (hc : CL I l n kd ag E sg rw) (hQ : Q (some (.int (nI (fb_ct (bt (orS sg n)) 32)))) M I J) : zz_D mX3_signsInAll (d + 1) [.ref (LN l)] M I J Q := by
  refine zz_D_of rfl (Nat.le_of_ble_eq_true rfl) ?_
  try dsimp only [zz_s1, zz_s2, zz_kill, zz_ent, zz_fl, List.set_cons_zero, List.set_cons_succ, List.getElem?_cons_zero, List.getElem?_cons_succ, Option.toList_some, Option.toList_none, List.cons_append, List.nil_append, List.append_nil, List.length_cons, List.length_nil, List.replicate_succ, List.replicate_zero, Nat.reduceAdd, Nat.reduceSub]
  refine zz_iconst (v := 0) (by decide) dX3_signsInAll_0 ?_
  refine zz_istore_n dX3_signsInAll_1 (by decide) ?_
  refine zz_iconst (v := 0) (by decide) dX3_signsInAll_2 ?_
  refine zz_istore_n dX3_signsInAll_3 (by decide) ?_
  try dsimp only [zz_s1, zz_s2, zz_kill, zz_ent, zz_fl, List.set_cons_zero, List.set_cons_succ, List.getElem?_cons_zero, List.getElem?_cons_succ, Option.toList_some, Option.toList_none, List.cons_append, List.nil_append, List.append_nil, List.length_cons, List.length_nil, List.replicate_succ, List.replicate_zero, Nat.reduceAdd, Nat.reduceSub]
  have loop : ∀ (q a : Nat), a + q = n → zz_G mX3_signsInAll (d + 1) 0 4 [some (.ref (LN l)), some (.int (orS sg a)), some (.int (nI a))] [] M I J Q := by
    intro q
    induction q with
    | zero =>
      intro a ha
      have ea : a = n := by omega
      subst ea
      refine zz_iload_n rfl dX3_signsInAll_4 ?_
      refine zz_aload_n rfl dX3_signsInAll_5 ?_
      refine zz_geti dX3_signsInAll_6 fX3_15 rfl (ol_obj hO hl) ?_
      try dsimp only [zz_s1, zz_s2, zz_kill, zz_ent, zz_fl, List.set_cons_zero, List.set_cons_succ, List.getElem?_cons_zero, List.getElem?_cons_succ, Option.toList_some, Option.toList_none, List.cons_append, List.nil_append, List.append_nil, List.length_cons, List.length_nil, List.replicate_succ, List.replicate_zero, Nat.reduceAdd, Nat.reduceSub]
      rw [hc.2.1]
      refine zz_icmp_ge (tgt := 27) dX3_signsInAll_9 (by decide) (fun h => ?_) (fun h => ?_)
      · refine zz_iload_n rfl dX3_signsInAll_27 ?_
        try dsimp only [zz_s1, zz_s2, zz_kill, zz_ent, zz_fl, List.set_cons_zero, List.set_cons_succ, List.getElem?_cons_zero, List.getElem?_cons_succ, Option.toList_some, Option.toList_none, List.cons_append, List.nil_append, List.append_nil, List.length_cons, List.length_nil, List.replicate_succ, List.replicate_zero, Nat.reduceAdd, Nat.reduceSub]
        refine zz_cS1 dX3_signsInAll_28 lX3_44 rfl (Nat.le_of_ble_eq_true rfl) (Nat.le_of_ble_eq_true rfl) ?_
        refine sp_bitCountI d ?_
        try dsimp only [zz_s1, zz_s2, zz_kill, zz_ent, zz_fl, List.set_cons_zero, List.set_cons_succ, List.getElem?_cons_zero, List.getElem?_cons_succ, Option.toList_some, Option.toList_none, List.cons_append, List.nil_append, List.append_nil, List.length_cons, List.length_nil, List.replicate_succ, List.replicate_zero, Nat.reduceAdd, Nat.reduceSub]
        refine zz_ireturn dX3_signsInAll_31 rfl (by first | rfl | decide | assumption) ?_
        exact hQ
      · exact absurd (nI_le (Nat.le_refl _) (by omega)) h
    | succ q ih =>
      intro a ha
      refine zz_iload_n rfl dX3_signsInAll_4 ?_
      refine zz_aload_n rfl dX3_signsInAll_5 ?_
      refine zz_geti dX3_signsInAll_6 fX3_15 rfl (ol_obj hO hl) ?_
      try dsimp only [zz_s1, zz_s2, zz_kill, zz_ent, zz_fl, List.set_cons_zero, List.set_cons_succ, List.getElem?_cons_zero, List.getElem?_cons_succ, Option.toList_some, Option.toList_none, List.cons_append, List.nil_append, List.append_nil, List.length_cons, List.length_nil, List.replicate_succ, List.replicate_zero, Nat.reduceAdd, Nat.reduceSub]
      rw [hc.2.1]
      refine zz_icmp_ge (tgt := 27) dX3_signsInAll_9 (by decide) (fun h => ?_) (fun h => ?_)
      · exact absurd h (nI_ge (by omega) (by omega))
      · skip
        refine zz_iload_n rfl dX3_signsInAll_12 ?_
        refine zz_aload_n rfl dX3_signsInAll_13 ?_
        refine zz_getr dX3_signsInAll_14 fX3_25 (fun _ _ _ _ => rfl) (ol_obj hO hl) (olr_signs hO hl) ?_
        refine zz_iload_n rfl dX3_signsInAll_17 ?_
        refine zz_iald dX3_signsInAll_18 (ol_signs hO hl) (vp_in_nI (show a < 24 by omega) (by decide)) ?_
        refine zz_ior dX3_signsInAll_19 ?_
        refine zz_istore_n dX3_signsInAll_20 (by decide) ?_
        refine zz_iinc dX3_signsInAll_21 rfl (congrArg (HAdd.hAdd _) (show Int32.ofInt 1 = 1 by decide)) (by decide) ?_
        refine zz_goto (tgt := 4) dX3_signsInAll_24 (by decide) ?_
        try dsimp only [zz_s1, zz_s2, zz_kill, zz_ent, zz_fl, List.set_cons_zero, List.set_cons_succ, List.getElem?_cons_zero, List.getElem?_cons_succ, Option.toList_some, Option.toList_none, List.cons_append, List.nil_append, List.append_nil, List.length_cons, List.length_nil, List.replicate_succ, List.replicate_zero, Nat.reduceAdd, Nat.reduceSub]
        rw [nI_1, nI_clamp (by omega), hc.2.2.2.2.1 a (by omega)]
        exact ih (a + 1) (by omega)
  exact loop n 0 (by omega)
theorem rng_k {w : Int32} {c n : Nat} (hc : c < 1000) (hn : n < 1000) : (nI c ≤ w ∧ w < nI c + nI n) ↔ ∃ a, a < n ∧ w = nI (c + a) := by
  rw [nI_add, Int32.le_iff_toInt_le, Int32.lt_iff_toInt_lt, nI_toInt (by omega), nI_toInt (by omega)]
  constructor
  · intro h
    refine ⟨(w.toInt - c).toNat, by omega, ?_⟩
    apply Int32.toInt_inj.mp
    rw [nI_toInt (by omega)]
    omega
  · rintro ⟨a, ha, rfl⟩
    rw [nI_toInt (by omega)]
    omega
theorem sp_aboutLetter (d : Nat) (hO : OK M) {l : Nat} {w : Int32} (hl : l < 8) (hn : n ≤ 24) (hc : CL I l n kd ag E sg rw)
    (h10 : ∀ a r, a < n → w = nI (10 + a) → (∀ b, b < 32 → bt r b = E a b) → Q (some (.int r)) M I J) (h40 : ∀ a, a < n → w = nI (40 + a) → kd = 1 → Q (some (.int (sg a))) M I J)
    (hx : ¬ (∃ a, a < n ∧ w = nI (10 + a)) → ¬ (kd = 1 ∧ ∃ a, a < n ∧ w = nI (40 + a)) → Q (some (.int (-1))) M I J) : zz_D mX9_aboutLetter d [.ref (LN l), .int w] M I J Q := by
  have r10 := rng_k (w := w) (c := 10) (n := n) (by decide) (by omega)
  have r40 := rng_k (w := w) (c := 40) (n := n) (by decide) (by omega)
  refine zz_D_of rfl (Nat.le_of_ble_eq_true rfl) ?_
  try dsimp only [zz_s1, zz_s2, zz_kill, zz_ent, zz_fl, List.set_cons_zero, List.set_cons_succ, List.getElem?_cons_zero, List.getElem?_cons_succ, Option.toList_some, Option.toList_none, List.cons_append, List.nil_append, List.append_nil, List.length_cons, List.length_nil, List.replicate_succ, List.replicate_zero, Nat.reduceAdd, Nat.reduceSub]
  have tail : ¬ (∃ a, a < n ∧ w = nI (10 + a)) → zz_G mX9_aboutLetter d 0 27 [some (.ref (LN l)), some (.int w)] [] M I J Q := by
    intro q10
    have no : ¬ (kd = 1 ∧ ∃ a, a < n ∧ w = nI (40 + a)) → zz_G mX9_aboutLetter d 0 62 [some (.ref (LN l)), some (.int w)] [] M I J Q := by
      intro q40
      refine zz_iconst (v := (-1)) (by decide) dX9_aboutLetter_62 ?_
      refine zz_ireturn dX9_aboutLetter_63 rfl (by first | rfl | decide | assumption) ?_
      exact hx q10 q40
    refine zz_aload_n rfl dX9_aboutLetter_27 ?_
    refine zz_geti dX9_aboutLetter_28 fX9_111 rfl (ol_obj hO hl) ?_
    refine zz_iconst (v := 1) (by decide) dX9_aboutLetter_31 ?_
    try dsimp only [zz_s1, zz_s2, zz_kill, zz_ent, zz_fl, List.set_cons_zero, List.set_cons_succ, List.getElem?_cons_zero, List.getElem?_cons_succ, Option.toList_some, Option.toList_none, List.cons_append, List.nil_append, List.append_nil, List.length_cons, List.length_nil, List.replicate_succ, List.replicate_zero, Nat.reduceAdd, Nat.reduceSub]
    rw [hc.1]
    refine zz_icmp_ne (tgt := 62) dX9_aboutLetter_32 (by decide) (fun h => ?_) (fun h => ?_)
    · exact no (fun q => h q.1)
    · skip
      refine zz_iload_n rfl dX9_aboutLetter_35 ?_
      refine zz_bipush (v := 40) (by decide) dX9_aboutLetter_36 ?_
      try dsimp only [zz_s1, zz_s2, zz_kill, zz_ent, zz_fl, List.set_cons_zero, List.set_cons_succ, List.getElem?_cons_zero, List.getElem?_cons_succ, Option.toList_some, Option.toList_none, List.cons_append, List.nil_append, List.append_nil, List.length_cons, List.length_nil, List.replicate_succ, List.replicate_zero, Nat.reduceAdd, Nat.reduceSub]
      refine zz_icmp_lt (tgt := 62) dX9_aboutLetter_38 (by decide) (fun h2 => ?_) (fun h2 => ?_)
      · exact no (fun q => Int32.not_lt.mpr (r40.mpr q.2).1 h2)
      · skip
        refine zz_iload_n rfl dX9_aboutLetter_41 ?_
        refine zz_bipush (v := 40) (by decide) dX9_aboutLetter_42 ?_
        refine zz_aload_n rfl dX9_aboutLetter_44 ?_
        refine zz_geti dX9_aboutLetter_45 fX9_144 rfl (ol_obj hO hl) ?_
        refine zz_iadd dX9_aboutLetter_48 ?_
        try dsimp only [zz_s1, zz_s2, zz_kill, zz_ent, zz_fl, List.set_cons_zero, List.set_cons_succ, List.getElem?_cons_zero, List.getElem?_cons_succ, Option.toList_some, Option.toList_none, List.cons_append, List.nil_append, List.append_nil, List.length_cons, List.length_nil, List.replicate_succ, List.replicate_zero, Nat.reduceAdd, Nat.reduceSub]
        rw [hc.2.1]
        refine zz_icmp_ge (tgt := 62) dX9_aboutLetter_49 (by decide) (fun h3 => ?_) (fun h3 => ?_)
        · exact no (fun q => Int32.not_lt.mpr h3 (r40.mpr q.2).2)
        · skip
          obtain ⟨a, ha, rfl⟩ := r40.mp ⟨Int32.not_lt.mp h2, Int32.not_le.mp h3⟩
          have e : nI (40 + a) - 40 = nI a := by rw [show (40 : Int32) = nI 40 from rfl, pk_sub (by omega)]; congr 1; omega
          refine zz_aload_n rfl dX9_aboutLetter_52 ?_
          refine zz_getr dX9_aboutLetter_53 fX9_284 (fun _ _ _ _ => rfl) (ol_obj hO hl) (olr_signs hO hl) ?_
          refine zz_iload_n rfl dX9_aboutLetter_56 ?_
          refine zz_bipush (v := 40) (by decide) dX9_aboutLetter_57 ?_
          refine zz_isub dX9_aboutLetter_59 ?_
          refine zz_iald dX9_aboutLetter_60 (ol_signs hO hl) (by rw [e]; exact vp_in_nI (by omega) (by decide)) ?_
          refine zz_ireturn dX9_aboutLetter_61 rfl (by first | rfl | decide | assumption) ?_
          rw [e, nI_clamp (by omega), hc.2.2.2.2.1 a (by omega)]
          exact h40 a ha rfl h
  refine zz_iload_n rfl dX9_aboutLetter_0 ?_
  refine zz_bipush (v := 10) (by decide) dX9_aboutLetter_1 ?_
  try dsimp only [zz_s1, zz_s2, zz_kill, zz_ent, zz_fl, List.set_cons_zero, List.set_cons_succ, List.getElem?_cons_zero, List.getElem?_cons_succ, Option.toList_some, Option.toList_none, List.cons_append, List.nil_append, List.append_nil, List.length_cons, List.length_nil, List.replicate_succ, List.replicate_zero, Nat.reduceAdd, Nat.reduceSub]
  refine zz_icmp_lt (tgt := 27) dX9_aboutLetter_3 (by decide) (fun h => ?_) (fun h => ?_)
  · exact tail (fun q => Int32.not_lt.mpr (r10.mpr q).1 h)
  · skip
    refine zz_iload_n rfl dX9_aboutLetter_6 ?_
    refine zz_bipush (v := 10) (by decide) dX9_aboutLetter_7 ?_
    refine zz_aload_n rfl dX9_aboutLetter_9 ?_
    refine zz_geti dX9_aboutLetter_10 fX9_144 rfl (ol_obj hO hl) ?_
    refine zz_iadd dX9_aboutLetter_13 ?_
    try dsimp only [zz_s1, zz_s2, zz_kill, zz_ent, zz_fl, List.set_cons_zero, List.set_cons_succ, List.getElem?_cons_zero, List.getElem?_cons_succ, Option.toList_some, Option.toList_none, List.cons_append, List.nil_append, List.append_nil, List.length_cons, List.length_nil, List.replicate_succ, List.replicate_zero, Nat.reduceAdd, Nat.reduceSub]
    rw [hc.2.1]
    refine zz_icmp_ge (tgt := 27) dX9_aboutLetter_14 (by decide) (fun h2 => ?_) (fun h2 => ?_)
    · exact tail (fun q => Int32.not_lt.mpr h2 (r10.mpr q).2)
    · skip
      obtain ⟨a, ha, rfl⟩ := r10.mp ⟨Int32.not_lt.mp h, Int32.not_le.mp h2⟩
      have e : nI (10 + a) - 10 = nI a := by rw [show (10 : Int32) = nI 10 from rfl, pk_sub (by omega)]; congr 1; omega
      refine zz_aload_n rfl dX9_aboutLetter_17 ?_
      refine zz_getr dX9_aboutLetter_18 fX9_155 (fun _ _ _ _ => rfl) (ol_obj hO hl) (olr_near hO hl) ?_
      refine zz_iload_n rfl dX9_aboutLetter_21 ?_
      refine zz_bipush (v := 10) (by decide) dX9_aboutLetter_22 ?_
      refine zz_isub dX9_aboutLetter_24 ?_
      refine zz_iald dX9_aboutLetter_25 (ol_near hO hl) (by rw [e]; exact vp_in_nI (by omega) (by decide)) ?_
      refine zz_ireturn dX9_aboutLetter_26 rfl (by first | rfl | decide | assumption) ?_
      rw [e, nI_clamp (by omega)]
      exact h10 a _ ha rfl (fun b hb => hc.2.2.2.1 a (by omega) b hb)
end PAbout
section PAbout2
variable {M : zz_M} {I : zz_I} {J : zz_J} {Q : zz_Q} {n : Nat → Nat} {kd ag : Nat → Int32} {E : Nat → Nat → Nat → Bool} {sg : Nat → Nat → Int32} {rw : Nat → Nat → Nat → Int32}
theorem sp_X9_about (d : Nat) (hO : OK M) {l w : Int32} (hn : ∀ j, j < 8 → n j ≤ 24) (hC : ∀ j, j < 8 → CL I j (n j) (kd j) (ag j) (E j) (sg j) (rw j))
    (h0 : ∀ j, j < 8 → l = nI j → w = 0 → Q (some (.int (nI (n j)))) M I J) (h1 : ∀ j, j < 8 → l = nI j → w = 1 → Q (some (.int (kd j))) M I J) (h3 : ∀ j, j < 8 → l = nI j → w = 3 → Q (some (.int (nI (fb_sm (fun a => fb_ct (E j a) 32) (n j)) / 2))) M I J) (h4 : ∀ j, j < 8 → l = nI j → w = 4 → Q (some (.int (nI (fb_ct (bt (orS (sg j) (n j))) 32)))) M I J)
    (h10 : ∀ j a r, j < 8 → l = nI j → a < n j → w = nI (10 + a) → (∀ b, b < 32 → bt r b = E j a b) → Q (some (.int r)) M I J) (h40 : ∀ j a, j < 8 → l = nI j → a < n j → w = nI (40 + a) → kd j = 1 → Q (some (.int (sg j a))) M I J)
    (hx : ∀ j, j < 8 → l = nI j → ¬ w = 0 → ¬ w = 1 → ¬ w = 3 → ¬ w = 4 → ¬ (∃ a, a < n j ∧ w = nI (10 + a)) → ¬ (kd j = 1 ∧ ∃ a, a < n j ∧ w = nI (40 + a)) → Q (some (.int (-1))) M I J) (hr : ¬ vp_in l 8 → Q (some (.int (-1))) M I J) : zz_D mX9_about (d + 2) [.ref 1, .int l, .int w] M I J Q := by
  refine zz_D_of rfl (Nat.le_of_ble_eq_true rfl) ?_
  try dsimp only [zz_s1, zz_s2, zz_kill, zz_ent, zz_fl, List.set_cons_zero, List.set_cons_succ, List.getElem?_cons_zero, List.getElem?_cons_succ, Option.toList_some, Option.toList_none, List.cons_append, List.nil_append, List.append_nil, List.length_cons, List.length_nil, List.replicate_succ, List.replicate_zero, Nat.reduceAdd, Nat.reduceSub]
  refine zz_aload_n rfl dX9_about_0 ?_
  refine zz_iload_n rfl dX9_about_1 ?_
  try dsimp only [zz_s1, zz_s2, zz_kill, zz_ent, zz_fl, List.set_cons_zero, List.set_cons_succ, List.getElem?_cons_zero, List.getElem?_cons_succ, Option.toList_some, Option.toList_none, List.cons_append, List.nil_append, List.append_nil, List.length_cons, List.length_nil, List.replicate_succ, List.replicate_zero, Nat.reduceAdd, Nat.reduceSub]
  refine zz_cV1 dX9_about_2 lX9_100 rfl (os_1 hO) rfl rfl (Nat.le_of_ble_eq_true rfl) (Nat.le_of_ble_eq_true rfl) ?_
  refine sp_lineAt (d + 1) hO (fun j hj e => ?_) (fun hv => ?_)
  try dsimp only [zz_s1, zz_s2, zz_kill, zz_ent, zz_fl, List.set_cons_zero, List.set_cons_succ, List.getElem?_cons_zero, List.getElem?_cons_succ, Option.toList_some, Option.toList_none, List.cons_append, List.nil_append, List.append_nil, List.length_cons, List.length_nil, List.replicate_succ, List.replicate_zero, Nat.reduceAdd, Nat.reduceSub]
  · skip
    have hc := hC j hj
    refine zz_astore_n dX9_about_5 (by decide) ?_
    refine zz_aload_n rfl dX9_about_6 ?_
    try dsimp only [zz_s1, zz_s2, zz_kill, zz_ent, zz_fl, List.set_cons_zero, List.set_cons_succ, List.getElem?_cons_zero, List.getElem?_cons_succ, Option.toList_some, Option.toList_none, List.cons_append, List.nil_append, List.append_nil, List.length_cons, List.length_nil, List.replicate_succ, List.replicate_zero, Nat.reduceAdd, Nat.reduceSub]
    refine zz_ifnonnull (tgt := 12) dX9_about_7 (by decide) ?_
    refine zz_iload_n rfl dX9_about_12 ?_
    try dsimp only [zz_s1, zz_s2, zz_kill, zz_ent, zz_fl, List.set_cons_zero, List.set_cons_succ, List.getElem?_cons_zero, List.getElem?_cons_succ, Option.toList_some, Option.toList_none, List.cons_append, List.nil_append, List.append_nil, List.length_cons, List.length_nil, List.replicate_succ, List.replicate_zero, Nat.reduceAdd, Nat.reduceSub]
    have hw : w = 0 ∨ w = 1 ∨ w = 3 ∨ w = 4 ∨ (¬ w = 0 ∧ ¬ w = 1 ∧ ¬ w = 3 ∧ ¬ w = 4) := by
      by_cases a0 : w = 0
      · exact Or.inl a0
      · by_cases a1 : w = 1
        · exact Or.inr (Or.inl a1)
        · by_cases a3 : w = 3
          · exact Or.inr (Or.inr (Or.inl a3))
          · by_cases a4 : w = 4
            · exact Or.inr (Or.inr (Or.inr (Or.inl a4)))
            · exact Or.inr (Or.inr (Or.inr (Or.inr ⟨a0, a1, a3, a4⟩)))
    have dflt : ¬ w = 0 → ¬ w = 1 → ¬ w = 3 → ¬ w = 4 → zz_G mX9_about (d + 2) 0 68 [some (.ref 1), some (.int l), some (.int w), some (.ref (LN j))] [] M I J Q := by
      intro a0 a1 a3 a4
      refine zz_aload_n rfl dX9_about_68 ?_
      refine zz_iload_n rfl dX9_about_69 ?_
      try dsimp only [zz_s1, zz_s2, zz_kill, zz_ent, zz_fl, List.set_cons_zero, List.set_cons_succ, List.getElem?_cons_zero, List.getElem?_cons_succ, Option.toList_some, Option.toList_none, List.cons_append, List.nil_append, List.append_nil, List.length_cons, List.length_nil, List.replicate_succ, List.replicate_zero, Nat.reduceAdd, Nat.reduceSub]
      refine zz_cS2 dX9_about_70 lX9_165 rfl (Nat.le_of_ble_eq_true rfl) (Nat.le_of_ble_eq_true rfl) ?_
      refine sp_aboutLetter (d + 1) hO hj (hn j hj) hc (fun a r ha ew hb => ?_) (fun a ha ew hk => ?_) (fun q1 q2 => ?_)
      try dsimp only [zz_s1, zz_s2, zz_kill, zz_ent, zz_fl, List.set_cons_zero, List.set_cons_succ, List.getElem?_cons_zero, List.getElem?_cons_succ, Option.toList_some, Option.toList_none, List.cons_append, List.nil_append, List.append_nil, List.length_cons, List.length_nil, List.replicate_succ, List.replicate_zero, Nat.reduceAdd, Nat.reduceSub]
      · refine zz_ireturn dX9_about_73 rfl (by first | rfl | decide | assumption) ?_
        exact h10 j a r hj e ha ew hb
      · try dsimp only [zz_s1, zz_s2, zz_kill, zz_ent, zz_fl, List.set_cons_zero, List.set_cons_succ, List.getElem?_cons_zero, List.getElem?_cons_succ, Option.toList_some, Option.toList_none, List.cons_append, List.nil_append, List.append_nil, List.length_cons, List.length_nil, List.replicate_succ, List.replicate_zero, Nat.reduceAdd, Nat.reduceSub]
        refine zz_ireturn dX9_about_73 rfl (by first | rfl | decide | assumption) ?_
        exact h40 j a hj e ha ew hk
      · try dsimp only [zz_s1, zz_s2, zz_kill, zz_ent, zz_fl, List.set_cons_zero, List.set_cons_succ, List.getElem?_cons_zero, List.getElem?_cons_succ, Option.toList_some, Option.toList_none, List.cons_append, List.nil_append, List.append_nil, List.length_cons, List.length_nil, List.replicate_succ, List.replicate_zero, Nat.reduceAdd, Nat.reduceSub]
        refine zz_ireturn dX9_about_73 rfl (by first | rfl | decide | assumption) ?_
        exact hx j hj e a0 a1 a3 a4 q1 q2
    rcases hw with rfl | rfl | rfl | rfl | ⟨a0, a1, a3, a4⟩
    · refine zz_tabIn (tgt := 48) dX9_about_13 (by decide) (by decide) (off := 35) (by decide) (by decide) ?_
      refine zz_aload_n rfl dX9_about_48 ?_
      refine zz_geti dX9_about_49 fX9_144 rfl (ol_obj hO hj) ?_
      refine zz_ireturn dX9_about_52 rfl (by first | rfl | decide | assumption) ?_
      rw [hc.2.1]
      exact h0 j hj e rfl
    · refine zz_tabIn (tgt := 53) dX9_about_13 (by decide) (by decide) (off := 40) (by decide) (by decide) ?_
      refine zz_aload_n rfl dX9_about_53 ?_
      refine zz_geti dX9_about_54 fX9_111 rfl (ol_obj hO hj) ?_
      refine zz_ireturn dX9_about_57 rfl (by first | rfl | decide | assumption) ?_
      rw [hc.1]
      exact h1 j hj e rfl
    · refine zz_tabIn (tgt := 58) dX9_about_13 (by decide) (by decide) (off := 45) (by decide) (by decide) ?_
      refine zz_aload_n rfl dX9_about_58 ?_
      try dsimp only [zz_s1, zz_s2, zz_kill, zz_ent, zz_fl, List.set_cons_zero, List.set_cons_succ, List.getElem?_cons_zero, List.getElem?_cons_succ, Option.toList_some, Option.toList_none, List.cons_append, List.nil_append, List.append_nil, List.length_cons, List.length_nil, List.replicate_succ, List.replicate_zero, Nat.reduceAdd, Nat.reduceSub]
      refine zz_cV0 dX9_about_59 lX9_158 rfl (ol_obj hO hj) rfl rfl (Nat.le_of_ble_eq_true rfl) (Nat.le_of_ble_eq_true rfl) ?_
      refine sp_X3_pairs d hO hj (hn j hj) hc ?_
      try dsimp only [zz_s1, zz_s2, zz_kill, zz_ent, zz_fl, List.set_cons_zero, List.set_cons_succ, List.getElem?_cons_zero, List.getElem?_cons_succ, Option.toList_some, Option.toList_none, List.cons_append, List.nil_append, List.append_nil, List.length_cons, List.length_nil, List.replicate_succ, List.replicate_zero, Nat.reduceAdd, Nat.reduceSub]
      refine zz_ireturn dX9_about_62 rfl (by first | rfl | decide | assumption) ?_
      exact h3 j hj e rfl
    · refine zz_tabIn (tgt := 63) dX9_about_13 (by decide) (by decide) (off := 50) (by decide) (by decide) ?_
      refine zz_aload_n rfl dX9_about_63 ?_
      try dsimp only [zz_s1, zz_s2, zz_kill, zz_ent, zz_fl, List.set_cons_zero, List.set_cons_succ, List.getElem?_cons_zero, List.getElem?_cons_succ, Option.toList_some, Option.toList_none, List.cons_append, List.nil_append, List.append_nil, List.length_cons, List.length_nil, List.replicate_succ, List.replicate_zero, Nat.reduceAdd, Nat.reduceSub]
      refine zz_cV0 dX9_about_64 lX9_162 rfl (ol_obj hO hj) rfl rfl (Nat.le_of_ble_eq_true rfl) (Nat.le_of_ble_eq_true rfl) ?_
      refine sp_X3_signsInAll d hO hj (hn j hj) hc ?_
      try dsimp only [zz_s1, zz_s2, zz_kill, zz_ent, zz_fl, List.set_cons_zero, List.set_cons_succ, List.getElem?_cons_zero, List.getElem?_cons_succ, Option.toList_some, Option.toList_none, List.cons_append, List.nil_append, List.append_nil, List.length_cons, List.length_nil, List.replicate_succ, List.replicate_zero, Nat.reduceAdd, Nat.reduceSub]
      refine zz_ireturn dX9_about_67 rfl (by first | rfl | decide | assumption) ?_
      exact h4 j hj e rfl
    · by_cases out : w.toInt < 0 ∨ 4 < w.toInt
      · refine zz_tabOut (tgt := 68) dX9_about_13 out (by decide) ?_
        exact dflt a0 a1 a3 a4
      · have w2 : w = 2 := by
          have e0 : ∀ z : Int32, w.toInt = z.toInt → w = z := fun z h => Int32.toInt_inj.mp h
          have n0 : ¬ w.toInt = 0 := fun q => a0 (e0 0 q)
          have n1 : ¬ w.toInt = 1 := fun q => a1 (e0 1 q)
          have n3 : ¬ w.toInt = 3 := fun q => a3 (e0 3 q)
          have n4 : ¬ w.toInt = 4 := fun q => a4 (e0 4 q)
          exact e0 2 (by show w.toInt = 2; omega)
        subst w2
        refine zz_tabIn (tgt := 68) dX9_about_13 (by decide) (by decide) (off := 55) (by decide) (by decide) ?_
        exact dflt a0 a1 a3 a4
  · try dsimp only [zz_s1, zz_s2, zz_kill, zz_ent, zz_fl, List.set_cons_zero, List.set_cons_succ, List.getElem?_cons_zero, List.getElem?_cons_succ, Option.toList_some, Option.toList_none, List.cons_append, List.nil_append, List.append_nil, List.length_cons, List.length_nil, List.replicate_succ, List.replicate_zero, Nat.reduceAdd, Nat.reduceSub]
    refine zz_nstore_n dX9_about_5 (by decide) ?_
    refine zz_nload_n rfl dX9_about_6 ?_
    try dsimp only [zz_s1, zz_s2, zz_kill, zz_ent, zz_fl, List.set_cons_zero, List.set_cons_succ, List.getElem?_cons_zero, List.getElem?_cons_succ, Option.toList_some, Option.toList_none, List.cons_append, List.nil_append, List.append_nil, List.length_cons, List.length_nil, List.replicate_succ, List.replicate_zero, Nat.reduceAdd, Nat.reduceSub]
    refine zz_ifnonnullN dX9_about_7 ?_
    try dsimp only [zz_s1, zz_s2, zz_kill, zz_ent, zz_fl, List.set_cons_zero, List.set_cons_succ, List.getElem?_cons_zero, List.getElem?_cons_succ, Option.toList_some, Option.toList_none, List.cons_append, List.nil_append, List.append_nil, List.length_cons, List.length_nil, List.replicate_succ, List.replicate_zero, Nat.reduceAdd, Nat.reduceSub]
    refine zz_iconst (v := (-1)) (by decide) dX9_about_10 ?_
    refine zz_ireturn dX9_about_11 rfl (by first | rfl | decide | assumption) ?_
    exact hr hv
theorem in_rng {w : Int32} {c n : Nat} (hc : c < 1000) (h0 : 0 < c) (hn : n < 1000) : ((lN c ≤ w.toInt64 ∧ w.toInt64 ≤ lN (c - 1) + (nI n).toInt64) ↔ ∃ a, a < n ∧ w = nI (c + a)) := by
  rw [nI_l (by omega), lN_add, Int64.le_iff_toInt_le, Int64.le_iff_toInt_le, i2l_int, pk_lT (by omega), pk_lT (by omega)]
  constructor
  · intro h
    refine ⟨(w.toInt - c).toNat, by omega, ?_⟩
    apply Int32.toInt_inj.mp
    rw [nI_toInt (by omega)]
    omega
  · rintro ⟨a, ha, rfl⟩
    rw [nI_toInt (by omega)]
    omega
theorem sp_X10_about (d : Nat) (hO : OK M) {l w : Int32} (hn : ∀ j, j < 8 → n j ≤ 24) (hC : ∀ j, j < 8 → ML I j (n j) (kd j) (ag j) (E j) (sg j) (rw j)) (hw : ∀ j, j < 8 → wfE (n j) (E j)) (hs : ∀ j, j < 8 → ∀ a, a < n j → ∀ i, 24 ≤ i → bt (sg j a) i = false)
    (h0 : ∀ j, j < 8 → l = nI j → w = 0 → Q (some (.int (nI (n j)))) M I J) (h1 : ∀ j, j < 8 → l = nI j → w = 1 → Q (some (.int (kd j))) M I J) (h3 : ∀ j, j < 8 → l = nI j → w = 3 → Q (some (.int (nI (fb_sm (fun a => fb_ct (E j a) 32) (n j)) / 2))) M I J) (h4 : ∀ j, j < 8 → l = nI j → w = 4 → Q (some (.int (nI (fb_ct (bt (orS (sg j) (n j))) 32)))) M I J)
    (h10 : ∀ j a r, j < 8 → l = nI j → a < n j → w = nI (10 + a) → (∀ b, b < 32 → bt r b = E j a b) → Q (some (.int r)) M I J) (h40 : ∀ j a, j < 8 → l = nI j → a < n j → w = nI (40 + a) → kd j = 1 → Q (some (.int (sg j a))) M I J)
    (hx : ∀ j, j < 8 → l = nI j → ¬ w = 0 → ¬ w = 1 → ¬ w = 3 → ¬ w = 4 → ¬ (∃ a, a < n j ∧ w = nI (10 + a)) → ¬ (kd j = 1 ∧ ∃ a, a < n j ∧ w = nI (40 + a)) → Q (some (.int (-1))) M I J) (hr : ¬ vp_in l 8 → Q (some (.int (-1))) M I J) : zz_D mX10_about (d + 2) [.ref 259, .int l, .int w] M I J Q := by
  refine zz_D_of rfl (Nat.le_of_ble_eq_true rfl) ?_
  try dsimp only [zz_s1, zz_s2, zz_kill, zz_ent, zz_fl, List.set_cons_zero, List.set_cons_succ, List.getElem?_cons_zero, List.getElem?_cons_succ, Option.toList_some, Option.toList_none, List.cons_append, List.nil_append, List.append_nil, List.length_cons, List.length_nil, List.replicate_succ, List.replicate_zero, Nat.reduceAdd, Nat.reduceSub]
  refine zz_iload_n rfl dX10_about_0 ?_
  try dsimp only [zz_s1, zz_s2, zz_kill, zz_ent, zz_fl, List.set_cons_zero, List.set_cons_succ, List.getElem?_cons_zero, List.getElem?_cons_succ, Option.toList_some, Option.toList_none, List.cons_append, List.nil_append, List.append_nil, List.length_cons, List.length_nil, List.replicate_succ, List.replicate_zero, Nat.reduceAdd, Nat.reduceSub]
  refine zz_cS1 dX10_about_1 lX10_85 rfl (Nat.le_of_ble_eq_true rfl) (Nat.le_of_ble_eq_true rfl) ?_
  refine sp_isLine d (fun r hr1 => ?_)
  try dsimp only [zz_s1, zz_s2, zz_kill, zz_ent, zz_fl, List.set_cons_zero, List.set_cons_succ, List.getElem?_cons_zero, List.getElem?_cons_succ, Option.toList_some, Option.toList_none, List.cons_append, List.nil_append, List.append_nil, List.length_cons, List.length_nil, List.replicate_succ, List.replicate_zero, Nat.reduceAdd, Nat.reduceSub]
  refine zz_if_ne (tgt := 9) dX10_about_4 (by decide) (fun q1 => ?_) (fun q1 => ?_)
  rotate_left
  · refine zz_iconst (v := (-1)) (by decide) dX10_about_7 ?_
    refine zz_ireturn dX10_about_8 rfl (by first | rfl | decide | assumption) ?_
    exact hr (hr1.f q1)
  obtain ⟨j, hj, rfl⟩ := vp_in_of (hr1.t q1) (by decide)
  have hc := hC j hj
  have hnj := hn j hj
  have v1 : vp_in (nI j) 8 := vp_in_nI hj (by decide)
  have cl1 : (nI j).toNatClampNeg = j := nI_clamp (by omega)
  refine zz_iload_n rfl dX10_about_9 ?_
  refine zz_i2l dX10_about_10 ?_
  refine zz_ldc2 tX10_131 dX10_about_11 ?_
  refine zz_ldc2 tX10_133 dX10_about_14 ?_
  refine zz_aload_n rfl dX10_about_17 ?_
  refine zz_getr dX10_about_18 fX10_9 (fun _ _ _ _ => rfl) (os_259 hO) (or_259_0 hO) ?_
  refine zz_iload_n rfl dX10_about_21 ?_
  refine zz_iald dX10_about_22 (os_260 hO) v1 ?_
  refine zz_i2l dX10_about_23 ?_
  refine zz_ladd dX10_about_24 ?_
  try dsimp only [zz_s1, zz_s2, zz_kill, zz_ent, zz_fl, List.set_cons_zero, List.set_cons_succ, List.getElem?_cons_zero, List.getElem?_cons_succ, Option.toList_some, Option.toList_none, List.cons_append, List.nil_append, List.append_nil, List.length_cons, List.length_nil, List.replicate_succ, List.replicate_zero, Nat.reduceAdd, Nat.reduceSub]
  rw [cl1, hc.2.1]
  refine zz_cS3 dX10_about_25 lX10_81 rfl (Nat.le_of_ble_eq_true rfl) (Nat.le_of_ble_eq_true rfl) ?_
  refine sp_in (d + 1) (fun r2 hr2 => ?_)
  try dsimp only [zz_s1, zz_s2, zz_kill, zz_ent, zz_fl, List.set_cons_zero, List.set_cons_succ, List.getElem?_cons_zero, List.getElem?_cons_succ, Option.toList_some, Option.toList_none, List.cons_append, List.nil_append, List.append_nil, List.length_cons, List.length_nil, List.replicate_succ, List.replicate_zero, Nat.reduceAdd, Nat.reduceSub]
  have hr2 : bo r2 (∃ a, a < n j ∧ w = nI (10 + a)) := hr2.iff (in_rng (c := 10) (by decide) (by decide) (by omega))
  refine zz_if_eq (tgt := 46) dX10_about_28 (by decide) (fun q2 => ?_) (fun q2 => ?_)
  rotate_left
  · obtain ⟨a, ha, rfl⟩ := hr2.t q2
    have e : (24 : Int32) * nI j + nI (10 + a) - 10 = nI (24 * j + a) := by rw [show (24 : Int32) = nI 24 from rfl, pk_mul, nI_add, show (10 : Int32) = nI 10 from rfl, pk_sub (by omega)]; congr 1; omega
    refine zz_aload_n rfl dX10_about_31 ?_
    refine zz_getr dX10_about_32 fX10_16 (fun _ _ _ _ => rfl) (os_259 hO) (or_259_2 hO) ?_
    refine zz_bipush (v := 24) (by decide) dX10_about_35 ?_
    refine zz_iload_n rfl dX10_about_37 ?_
    refine zz_imul dX10_about_38 ?_
    refine zz_iload_n rfl dX10_about_39 ?_
    refine zz_iadd dX10_about_40 ?_
    refine zz_bipush (v := 10) (by decide) dX10_about_41 ?_
    refine zz_isub dX10_about_43 ?_
    refine zz_iald dX10_about_44 (os_262 hO) (by rw [e]; exact vp_in_nI (by omega) (by decide)) ?_
    refine zz_ireturn dX10_about_45 rfl (by first | rfl | decide | assumption) ?_
    rw [e, nI_clamp (by omega)]
    exact h10 j a _ hj rfl ha rfl (fun b hb => hc.2.2.2.1 a (by omega) b hb)
  refine zz_iload_n rfl dX10_about_46 ?_
  refine zz_i2l dX10_about_47 ?_
  refine zz_ldc2 tX10_135 dX10_about_48 ?_
  refine zz_ldc2 tX10_137 dX10_about_51 ?_
  refine zz_aload_n rfl dX10_about_54 ?_
  refine zz_getr dX10_about_55 fX10_9 (fun _ _ _ _ => rfl) (os_259 hO) (or_259_0 hO) ?_
  refine zz_iload_n rfl dX10_about_58 ?_
  refine zz_iald dX10_about_59 (os_260 hO) v1 ?_
  refine zz_i2l dX10_about_60 ?_
  refine zz_ladd dX10_about_61 ?_
  try dsimp only [zz_s1, zz_s2, zz_kill, zz_ent, zz_fl, List.set_cons_zero, List.set_cons_succ, List.getElem?_cons_zero, List.getElem?_cons_succ, Option.toList_some, Option.toList_none, List.cons_append, List.nil_append, List.append_nil, List.length_cons, List.length_nil, List.replicate_succ, List.replicate_zero, Nat.reduceAdd, Nat.reduceSub]
  rw [cl1, hc.2.1]
  refine zz_cS3 dX10_about_62 lX10_81 rfl (Nat.le_of_ble_eq_true rfl) (Nat.le_of_ble_eq_true rfl) ?_
  refine sp_in (d + 1) (fun r3 hr3 => ?_)
  try dsimp only [zz_s1, zz_s2, zz_kill, zz_ent, zz_fl, List.set_cons_zero, List.set_cons_succ, List.getElem?_cons_zero, List.getElem?_cons_succ, Option.toList_some, Option.toList_none, List.cons_append, List.nil_append, List.append_nil, List.length_cons, List.length_nil, List.replicate_succ, List.replicate_zero, Nat.reduceAdd, Nat.reduceSub]
  have hr3 : bo r3 (∃ a, a < n j ∧ w = nI (40 + a)) := hr3.iff (in_rng (c := 40) (by decide) (by decide) (by omega))
  refine zz_if_eq (tgt := 97) dX10_about_65 (by decide) (fun q3 => ?_) (fun q3 => ?_)
  rotate_left
  · obtain ⟨a, ha, rfl⟩ := hr3.t q3
    have e : (24 : Int32) * nI j + nI (40 + a) - 40 = nI (24 * j + a) := by rw [show (24 : Int32) = nI 24 from rfl, pk_mul, nI_add, show (40 : Int32) = nI 40 from rfl, pk_sub (by omega)]; congr 1; omega
    have ne : ∀ c : Nat, c < 40 → ¬ nI (40 + a) = nI c := fun c hc q => by have := (nI_eq (by omega) (by omega)).mp q; omega
    refine zz_aload_n rfl dX10_about_68 ?_
    refine zz_getr dX10_about_69 fX10_13 (fun _ _ _ _ => rfl) (os_259 hO) (or_259_1 hO) ?_
    refine zz_iload_n rfl dX10_about_72 ?_
    refine zz_iald dX10_about_73 (os_261 hO) v1 ?_
    refine zz_iconst (v := 1) (by decide) dX10_about_74 ?_
    try dsimp only [zz_s1, zz_s2, zz_kill, zz_ent, zz_fl, List.set_cons_zero, List.set_cons_succ, List.getElem?_cons_zero, List.getElem?_cons_succ, Option.toList_some, Option.toList_none, List.cons_append, List.nil_append, List.append_nil, List.length_cons, List.length_nil, List.replicate_succ, List.replicate_zero, Nat.reduceAdd, Nat.reduceSub]
    rw [cl1, hc.1]
    refine zz_icmp_ne (tgt := 95) dX10_about_75 (by decide) (fun q4 => ?_) (fun q4 => ?_)
    · refine zz_iconst (v := (-1)) (by decide) dX10_about_95 ?_
      refine zz_ireturn dX10_about_96 rfl (by first | rfl | decide | assumption) ?_
      exact hx j hj rfl (ne 0 (by decide)) (ne 1 (by decide)) (ne 3 (by decide)) (ne 4 (by decide)) (hr2.f q2) (fun q => q4 q.1)
    · skip
      refine zz_aload_n rfl dX10_about_78 ?_
      refine zz_getr dX10_about_79 fX10_19 (fun _ _ _ _ => rfl) (os_259 hO) (or_259_3 hO) ?_
      refine zz_bipush (v := 24) (by decide) dX10_about_82 ?_
      refine zz_iload_n rfl dX10_about_84 ?_
      refine zz_imul dX10_about_85 ?_
      refine zz_iload_n rfl dX10_about_86 ?_
      refine zz_iadd dX10_about_87 ?_
      refine zz_bipush (v := 40) (by decide) dX10_about_88 ?_
      refine zz_isub dX10_about_90 ?_
      refine zz_iald dX10_about_91 (os_263 hO) (by rw [e]; exact vp_in_nI (by omega) (by decide)) ?_
      refine zz_goto (tgt := 96) dX10_about_92 (by decide) ?_
      refine zz_ireturn dX10_about_96 rfl (by first | rfl | decide | assumption) ?_
      rw [e, nI_clamp (by omega), hc.2.2.2.2.1 a (by omega)]
      exact h40 j a hj rfl ha rfl q4
  refine zz_iconst (v := 0) (by decide) dX10_about_97 ?_
  refine zz_istore_n dX10_about_98 (by decide) ?_
  refine zz_iconst (v := 0) (by decide) dX10_about_99 ?_
  refine zz_istore dX10_about_100 (by decide) ?_
  refine zz_iconst (v := 0) (by decide) dX10_about_102 ?_
  refine zz_istore dX10_about_103 (by decide) ?_
  try dsimp only [zz_s1, zz_s2, zz_kill, zz_ent, zz_fl, List.set_cons_zero, List.set_cons_succ, List.getElem?_cons_zero, List.getElem?_cons_succ, Option.toList_some, Option.toList_none, List.cons_append, List.nil_append, List.append_nil, List.length_cons, List.length_nil, List.replicate_succ, List.replicate_zero, Nat.reduceAdd, Nat.reduceSub]
  have hE : ∀ a, a < n j → ∀ i, 24 ≤ i → bt (I 262 (24 * j + a)) i = false := by
    intro a ha i hi
    by_cases h32 : i < 32
    · rw [hc.2.2.2.1 a (by omega) i h32]
      cases hx2 : E j a i with
      | false => rfl
      | true => have := hw j hj a i hx2; omega
    · exact b_big (by omega)
  have loop : ∀ (q a : Nat), a + q = n j → zz_G mX10_about (d + 2) 0 105 [some (.ref 259), some (.int (nI j)), some (.int w), some (.int (nI (fb_sm (fun a => fb_ct (E j a) 32) a))), some (.int (orS (sg j) a)), some (.int (nI a))] [] M I J Q := by
    intro q
    induction q with
    | zero =>
      intro a ha
      have ea : a = n j := by omega
      refine zz_iload rfl dX10_about_105 ?_
      refine zz_aload_n rfl dX10_about_107 ?_
      refine zz_getr dX10_about_108 fX10_9 (fun _ _ _ _ => rfl) (os_259 hO) (or_259_0 hO) ?_
      refine zz_iload_n rfl dX10_about_111 ?_
      refine zz_iald dX10_about_112 (os_260 hO) v1 ?_
      try dsimp only [zz_s1, zz_s2, zz_kill, zz_ent, zz_fl, List.set_cons_zero, List.set_cons_succ, List.getElem?_cons_zero, List.getElem?_cons_succ, Option.toList_some, Option.toList_none, List.cons_append, List.nil_append, List.append_nil, List.length_cons, List.length_nil, List.replicate_succ, List.replicate_zero, Nat.reduceAdd, Nat.reduceSub]
      rw [cl1, hc.2.1]
      refine zz_icmp_ge (tgt := 158) dX10_about_113 (by decide) (fun h => ?_) (fun h => ?_)
      · rw [ea]
        refine zz_iload_n rfl dX10_about_158 ?_
        try dsimp only [zz_s1, zz_s2, zz_kill, zz_ent, zz_fl, List.set_cons_zero, List.set_cons_succ, List.getElem?_cons_zero, List.getElem?_cons_succ, Option.toList_some, Option.toList_none, List.cons_append, List.nil_append, List.append_nil, List.length_cons, List.length_nil, List.replicate_succ, List.replicate_zero, Nat.reduceAdd, Nat.reduceSub]
        refine zz_if_ne (tgt := 171) dX10_about_159 (by decide) (fun c0 => ?_) (fun c0 => ?_)
        · refine zz_iload_n rfl dX10_about_171 ?_
          refine zz_iconst (v := 1) (by decide) dX10_about_172 ?_
          try dsimp only [zz_s1, zz_s2, zz_kill, zz_ent, zz_fl, List.set_cons_zero, List.set_cons_succ, List.getElem?_cons_zero, List.getElem?_cons_succ, Option.toList_some, Option.toList_none, List.cons_append, List.nil_append, List.append_nil, List.length_cons, List.length_nil, List.replicate_succ, List.replicate_zero, Nat.reduceAdd, Nat.reduceSub]
          refine zz_icmp_ne (tgt := 185) dX10_about_173 (by decide) (fun c1 => ?_) (fun c1 => ?_)
          · refine zz_iload_n rfl dX10_about_185 ?_
            refine zz_iconst (v := 3) (by decide) dX10_about_186 ?_
            try dsimp only [zz_s1, zz_s2, zz_kill, zz_ent, zz_fl, List.set_cons_zero, List.set_cons_succ, List.getElem?_cons_zero, List.getElem?_cons_succ, Option.toList_some, Option.toList_none, List.cons_append, List.nil_append, List.append_nil, List.length_cons, List.length_nil, List.replicate_succ, List.replicate_zero, Nat.reduceAdd, Nat.reduceSub]
            refine zz_icmp_ne (tgt := 196) dX10_about_187 (by decide) (fun c3 => ?_) (fun c3 => ?_)
            · refine zz_iload_n rfl dX10_about_196 ?_
              refine zz_iconst (v := 4) (by decide) dX10_about_197 ?_
              try dsimp only [zz_s1, zz_s2, zz_kill, zz_ent, zz_fl, List.set_cons_zero, List.set_cons_succ, List.getElem?_cons_zero, List.getElem?_cons_succ, Option.toList_some, Option.toList_none, List.cons_append, List.nil_append, List.append_nil, List.length_cons, List.length_nil, List.replicate_succ, List.replicate_zero, Nat.reduceAdd, Nat.reduceSub]
              refine zz_icmp_ne (tgt := 210) dX10_about_198 (by decide) (fun c4 => ?_) (fun c4 => ?_)
              · refine zz_iconst (v := (-1)) (by decide) dX10_about_210 ?_
                refine zz_ireturn dX10_about_211 rfl (by first | rfl | decide | assumption) ?_
                exact hx j hj rfl c0 c1 c3 c4 (hr2.f q2) (fun q => hr3.f q3 q.2)
              · skip
                refine zz_iload rfl dX10_about_201 ?_
                refine zz_i2l dX10_about_203 ?_
                try dsimp only [zz_s1, zz_s2, zz_kill, zz_ent, zz_fl, List.set_cons_zero, List.set_cons_succ, List.getElem?_cons_zero, List.getElem?_cons_succ, Option.toList_some, Option.toList_none, List.cons_append, List.nil_append, List.append_nil, List.length_cons, List.length_nil, List.replicate_succ, List.replicate_zero, Nat.reduceAdd, Nat.reduceSub]
                refine zz_cS1 dX10_about_204 lX10_139 rfl (Nat.le_of_ble_eq_true rfl) (Nat.le_of_ble_eq_true rfl) ?_
                refine sp_bits (d + 1) ?_
                try dsimp only [zz_s1, zz_s2, zz_kill, zz_ent, zz_fl, List.set_cons_zero, List.set_cons_succ, List.getElem?_cons_zero, List.getElem?_cons_succ, Option.toList_some, Option.toList_none, List.cons_append, List.nil_append, List.append_nil, List.length_cons, List.length_nil, List.replicate_succ, List.replicate_zero, Nat.reduceAdd, Nat.reduceSub]
                refine zz_goto (tgt := 211) dX10_about_207 (by decide) ?_
                refine zz_ireturn dX10_about_211 rfl (by first | rfl | decide | assumption) ?_
                rw [ct_i2l (orS_hi (hs j hj) (n j) (Nat.le_refl _))]
                exact h4 j hj rfl c4
            · skip
              refine zz_iload_n rfl dX10_about_190 ?_
              refine zz_iconst (v := 2) (by decide) dX10_about_191 ?_
              refine zz_idiv (by decide) dX10_about_192 ?_
              refine zz_goto (tgt := 211) dX10_about_193 (by decide) ?_
              refine zz_ireturn dX10_about_211 rfl (by first | rfl | decide | assumption) ?_
              exact h3 j hj rfl c3
          · skip
            refine zz_aload_n rfl dX10_about_176 ?_
            refine zz_getr dX10_about_177 fX10_13 (fun _ _ _ _ => rfl) (os_259 hO) (or_259_1 hO) ?_
            refine zz_iload_n rfl dX10_about_180 ?_
            refine zz_iald dX10_about_181 (os_261 hO) v1 ?_
            refine zz_goto (tgt := 211) dX10_about_182 (by decide) ?_
            refine zz_ireturn dX10_about_211 rfl (by first | rfl | decide | assumption) ?_
            rw [cl1, hc.1]
            exact h1 j hj rfl c1
        · skip
          refine zz_aload_n rfl dX10_about_162 ?_
          refine zz_getr dX10_about_163 fX10_9 (fun _ _ _ _ => rfl) (os_259 hO) (or_259_0 hO) ?_
          refine zz_iload_n rfl dX10_about_166 ?_
          refine zz_iald dX10_about_167 (os_260 hO) v1 ?_
          refine zz_goto (tgt := 211) dX10_about_168 (by decide) ?_
          refine zz_ireturn dX10_about_211 rfl (by first | rfl | decide | assumption) ?_
          rw [cl1, hc.2.1]
          exact h0 j hj rfl c0
      · exact absurd (by rw [ea]; exact nI_le (Nat.le_refl _) (by omega)) h
    | succ q ih =>
      intro a ha
      have e : (24 : Int32) * nI j + nI a = nI (24 * j + a) := by rw [show (24 : Int32) = nI 24 from rfl, pk_mul, nI_add]
      refine zz_iload rfl dX10_about_105 ?_
      refine zz_aload_n rfl dX10_about_107 ?_
      refine zz_getr dX10_about_108 fX10_9 (fun _ _ _ _ => rfl) (os_259 hO) (or_259_0 hO) ?_
      refine zz_iload_n rfl dX10_about_111 ?_
      refine zz_iald dX10_about_112 (os_260 hO) v1 ?_
      try dsimp only [zz_s1, zz_s2, zz_kill, zz_ent, zz_fl, List.set_cons_zero, List.set_cons_succ, List.getElem?_cons_zero, List.getElem?_cons_succ, Option.toList_some, Option.toList_none, List.cons_append, List.nil_append, List.append_nil, List.length_cons, List.length_nil, List.replicate_succ, List.replicate_zero, Nat.reduceAdd, Nat.reduceSub]
      rw [cl1, hc.2.1]
      refine zz_icmp_ge (tgt := 158) dX10_about_113 (by decide) (fun h => ?_) (fun h => ?_)
      · exact absurd h (nI_ge (by omega) (by omega))
      · skip
        refine zz_iload_n rfl dX10_about_116 ?_
        refine zz_aload_n rfl dX10_about_117 ?_
        refine zz_getr dX10_about_118 fX10_16 (fun _ _ _ _ => rfl) (os_259 hO) (or_259_2 hO) ?_
        refine zz_bipush (v := 24) (by decide) dX10_about_121 ?_
        refine zz_iload_n rfl dX10_about_123 ?_
        refine zz_imul dX10_about_124 ?_
        refine zz_iload rfl dX10_about_125 ?_
        refine zz_iadd dX10_about_127 ?_
        refine zz_iald dX10_about_128 (os_262 hO) (by rw [e]; exact vp_in_nI (by omega) (by decide)) ?_
        refine zz_i2l dX10_about_129 ?_
        try dsimp only [zz_s1, zz_s2, zz_kill, zz_ent, zz_fl, List.set_cons_zero, List.set_cons_succ, List.getElem?_cons_zero, List.getElem?_cons_succ, Option.toList_some, Option.toList_none, List.cons_append, List.nil_append, List.append_nil, List.length_cons, List.length_nil, List.replicate_succ, List.replicate_zero, Nat.reduceAdd, Nat.reduceSub]
        refine zz_cS1 dX10_about_130 lX10_139 rfl (Nat.le_of_ble_eq_true rfl) (Nat.le_of_ble_eq_true rfl) ?_
        refine sp_bits (d + 1) ?_
        try dsimp only [zz_s1, zz_s2, zz_kill, zz_ent, zz_fl, List.set_cons_zero, List.set_cons_succ, List.getElem?_cons_zero, List.getElem?_cons_succ, Option.toList_some, Option.toList_none, List.cons_append, List.nil_append, List.append_nil, List.length_cons, List.length_nil, List.replicate_succ, List.replicate_zero, Nat.reduceAdd, Nat.reduceSub]
        refine zz_iadd dX10_about_133 ?_
        refine zz_istore_n dX10_about_134 (by decide) ?_
        refine zz_iload rfl dX10_about_135 ?_
        refine zz_aload_n rfl dX10_about_137 ?_
        refine zz_getr dX10_about_138 fX10_19 (fun _ _ _ _ => rfl) (os_259 hO) (or_259_3 hO) ?_
        refine zz_bipush (v := 24) (by decide) dX10_about_141 ?_
        refine zz_iload_n rfl dX10_about_143 ?_
        refine zz_imul dX10_about_144 ?_
        refine zz_iload rfl dX10_about_145 ?_
        refine zz_iadd dX10_about_147 ?_
        refine zz_iald dX10_about_148 (os_263 hO) (by rw [e]; exact vp_in_nI (by omega) (by decide)) ?_
        refine zz_ior dX10_about_149 ?_
        refine zz_istore dX10_about_150 (by decide) ?_
        refine zz_iinc dX10_about_152 rfl (congrArg (HAdd.hAdd _) (show Int32.ofInt 1 = 1 by decide)) (by decide) ?_
        refine zz_goto (tgt := 105) dX10_about_155 (by decide) ?_
        try dsimp only [zz_s1, zz_s2, zz_kill, zz_ent, zz_fl, List.set_cons_zero, List.set_cons_succ, List.getElem?_cons_zero, List.getElem?_cons_succ, Option.toList_some, Option.toList_none, List.cons_append, List.nil_append, List.append_nil, List.length_cons, List.length_nil, List.replicate_succ, List.replicate_zero, Nat.reduceAdd, Nat.reduceSub]
        rw [nI_1, e, nI_clamp (by omega), ct_i2l (hE a (by omega)), fb_ct_cong (p := bt (I 262 (24 * j + a))) (q := E j a) (fun i hi => hc.2.2.2.1 a (by omega) i hi), nI_add, hc.2.2.2.2.1 a (by omega)]
        exact ih (a + 1) (by omega)
  exact loop (n j) 0 (by omega)
end PAbout2

