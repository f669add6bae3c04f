/-! ===== list of the reference ===== -/
section PListM
variable {M : zz_M} {I : zz_I} {J : zz_J} {Q : zz_Q}
theorem sp_isList (d : Nat) (hO : OK M) {j n l x : Nat} {sg : Nat → Int32} (hj : j < 8) (hn : n ≤ 24) (hl : l ≤ 24) (hx : x < 2 ^ 31) (hc1 : I 260 j = nI n) (hc2 : ∀ a, a < 24 → I 263 (24 * j + a) = sg a) (hQ : ∀ r : Int32, bo r (vld (fun a s => bt (sg a) s) n l x) → Q (some (.int r)) M I J) : zz_D mX10_isList d [.ref 259, .int (nI j), .int (nI x), .int (nI l)] M I J Q := by
  have v1 : vp_in (nI j) 8 := vp_in_nI hj (by decide)
  have cl1 : (nI j).toNatClampNeg = j := nI_clamp (by omega)
  refine zz_D_of rfl (Nat.le_of_ble_eq_true rfl) ?_
  try dsimp only [zz_s1, zz_s2, zz_kill, zz_ent, zz_fl, List.set_cons_zero, List.set_cons_succ, List.getElem?_cons_zero, List.getElem?_cons_succ, Option.toList_some, Option.toList_none, List.cons_append, List.nil_append, List.append_nil, List.length_cons, List.length_nil, List.replicate_succ, List.replicate_zero, Nat.reduceAdd, Nat.reduceSub]
  refine zz_iconst (v := 0) (by decide) dX10_isList_0 ?_
  refine zz_istore dX10_isList_1 (by decide) ?_
  try dsimp only [zz_s1, zz_s2, zz_kill, zz_ent, zz_fl, List.set_cons_zero, List.set_cons_succ, List.getElem?_cons_zero, List.getElem?_cons_succ, Option.toList_some, Option.toList_none, List.cons_append, List.nil_append, List.append_nil, List.length_cons, List.length_nil, List.replicate_succ, List.replicate_zero, Nat.reduceAdd, Nat.reduceSub]
  have inner : ∀ (s : Nat), s < 24 → (∀ z6 : Option Value, zz_G mX10_isList d 0 74 [some (.ref 259), some (.int (nI j)), some (.int (nI x)), some (.int (nI l)), some (.int (nI s)), some (.int (nI (fb_ct (fun a => x.testBit a && bt (sg a) s) n))), z6] [] M I J Q) → ∀ (q a : Nat), a + q = n → zz_G mX10_isList d 0 16 [some (.ref 259), some (.int (nI j)), some (.int (nI x)), some (.int (nI l)), some (.int (nI s)), some (.int (nI (fb_ct (fun a => x.testBit a && bt (sg a) s) a))), some (.int (nI a))] [] M I J Q := by
    intro s hs hk q
    induction q with
    | zero =>
      intro a ha
      have e : a = n := by omega
      subst e
      refine zz_iload rfl dX10_isList_16 ?_
      refine zz_aload_n rfl dX10_isList_18 ?_
      refine zz_getr dX10_isList_19 fX10_9 (fun _ _ _ _ => rfl) (os_259 hO) (or_259_0 hO) ?_
      refine zz_iload_n rfl dX10_isList_22 ?_
      refine zz_iald dX10_isList_23 (os_260 hO) v1 ?_
      try dsimp only [zz_s1, zz_s2, zz_kill, zz_ent, zz_fl, List.set_cons_zero, List.set_cons_succ, List.getElem?_cons_zero, List.getElem?_cons_succ, Option.toList_some, Option.toList_none, List.cons_append, List.nil_append, List.append_nil, List.length_cons, List.length_nil, List.replicate_succ, List.replicate_zero, Nat.reduceAdd, Nat.reduceSub]
      rw [cl1, hc1]
      refine zz_icmp_ge (tgt := 74) dX10_isList_24 (by decide) (fun h => ?_) (fun h => ?_)
      · exact hk _
      · exact absurd (nI_le (Nat.le_refl a) (by omega)) h
    | succ q ih =>
      intro a ha
      have hxi : (24 : Int32) * nI j + nI a = nI (24 * j + a) := by rw [show (24 : Int32) = nI 24 from rfl, pk_mul, nI_add]
      have e1 : ((nI x >>> (nI a &&& 31)) &&& 1 = 1) ↔ x.testBit a = true := by
        rw [sh1_iff (nI x) (b := a) (by omega), bt_nI]
        simp; omega
      have e2 := sh1_iff (sg a) (b := s) (by omega)
      have nxt : ∀ b : Nat, b = (if (x.testBit a && bt (sg a) s) = true then 1 else 0) → zz_G mX10_isList d 0 65 [some (.ref 259), some (.int (nI j)), some (.int (nI x)), some (.int (nI l)), some (.int (nI s)), some (.int (nI (fb_ct (fun a => x.testBit a && bt (sg a) s) a))), some (.int (nI a))] [.int (nI b), .int (nI (fb_ct (fun a => x.testBit a && bt (sg a) s) a))] M I J Q := by
        intro b hb
        refine zz_iadd dX10_isList_65 ?_
        refine zz_istore dX10_isList_66 (by decide) ?_
        refine zz_iinc dX10_isList_68 rfl (congrArg (HAdd.hAdd _) (show Int32.ofInt 1 = 1 by decide)) (by decide) ?_
        refine zz_goto (tgt := 16) dX10_isList_71 (by decide) ?_
        try dsimp only [zz_s1, zz_s2, zz_kill, zz_ent, zz_fl, List.set_cons_zero, List.set_cons_succ, List.getElem?_cons_zero, List.getElem?_cons_succ, Option.toList_some, Option.toList_none, List.cons_append, List.nil_append, List.append_nil, List.length_cons, List.length_nil, List.replicate_succ, List.replicate_zero, Nat.reduceAdd, Nat.reduceSub]
        rw [nI_1, nI_add, hb]
        exact ih (a + 1) (by omega)
      refine zz_iload rfl dX10_isList_16 ?_
      refine zz_aload_n rfl dX10_isList_18 ?_
      refine zz_getr dX10_isList_19 fX10_9 (fun _ _ _ _ => rfl) (os_259 hO) (or_259_0 hO) ?_
      refine zz_iload_n rfl dX10_isList_22 ?_
      refine zz_iald dX10_isList_23 (os_260 hO) v1 ?_
      try dsimp only [zz_s1, zz_s2, zz_kill, zz_ent, zz_fl, List.set_cons_zero, List.set_cons_succ, List.getElem?_cons_zero, List.getElem?_cons_succ, Option.toList_some, Option.toList_none, List.cons_append, List.nil_append, List.append_nil, List.length_cons, List.length_nil, List.replicate_succ, List.replicate_zero, Nat.reduceAdd, Nat.reduceSub]
      rw [cl1, hc1]
      refine zz_icmp_ge (tgt := 74) dX10_isList_24 (by decide) (fun h => ?_) (fun h => ?_)
      · exact absurd h (nI_ge (by omega) (by omega))
      refine zz_iload rfl dX10_isList_27 ?_
      refine zz_iload_n rfl dX10_isList_29 ?_
      refine zz_iload rfl dX10_isList_30 ?_
      refine zz_ishr dX10_isList_32 ?_
      refine zz_iconst (v := 1) (by decide) dX10_isList_33 ?_
      refine zz_iand dX10_isList_34 ?_
      refine zz_iconst (v := 1) (by decide) dX10_isList_35 ?_
      try dsimp only [zz_s1, zz_s2, zz_kill, zz_ent, zz_fl, List.set_cons_zero, List.set_cons_succ, List.getElem?_cons_zero, List.getElem?_cons_succ, Option.toList_some, Option.toList_none, List.cons_append, List.nil_append, List.append_nil, List.length_cons, List.length_nil, List.replicate_succ, List.replicate_zero, Nat.reduceAdd, Nat.reduceSub]
      refine zz_icmp_ne (tgt := 64) dX10_isList_36 (by decide) (fun h2 => ?_) (fun h2 => ?_)
      · refine zz_iconst (v := 0) (by decide) dX10_isList_64 ?_
        try dsimp only [zz_s1, zz_s2, zz_kill, zz_ent, zz_fl, List.set_cons_zero, List.set_cons_succ, List.getElem?_cons_zero, List.getElem?_cons_succ, Option.toList_some, Option.toList_none, List.cons_append, List.nil_append, List.append_nil, List.length_cons, List.length_nil, List.replicate_succ, List.replicate_zero, Nat.reduceAdd, Nat.reduceSub]
        refine nxt 0 ?_
        have : ¬ x.testBit a = true := fun z => h2 (e1.mpr z)
        simp [this]
      refine zz_aload_n rfl dX10_isList_39 ?_
      refine zz_getr dX10_isList_40 fX10_19 (fun _ _ _ _ => rfl) (os_259 hO) (or_259_3 hO) ?_
      refine zz_bipush (v := 24) (by decide) dX10_isList_43 ?_
      refine zz_iload_n rfl dX10_isList_45 ?_
      refine zz_imul dX10_isList_46 ?_
      refine zz_iload rfl dX10_isList_47 ?_
      refine zz_iadd dX10_isList_49 ?_
      refine zz_iald dX10_isList_50 (os_263 hO) (by rw [hxi]; exact vp_in_nI (by omega) (by decide)) ?_
      refine zz_iload rfl dX10_isList_51 ?_
      refine zz_ishr dX10_isList_53 ?_
      refine zz_iconst (v := 1) (by decide) dX10_isList_54 ?_
      refine zz_iand dX10_isList_55 ?_
      refine zz_iconst (v := 1) (by decide) dX10_isList_56 ?_
      try dsimp only [zz_s1, zz_s2, zz_kill, zz_ent, zz_fl, List.set_cons_zero, List.set_cons_succ, List.getElem?_cons_zero, List.getElem?_cons_succ, Option.toList_some, Option.toList_none, List.cons_append, List.nil_append, List.append_nil, List.length_cons, List.length_nil, List.replicate_succ, List.replicate_zero, Nat.reduceAdd, Nat.reduceSub]
      rw [hxi, nI_clamp (show 24 * j + a < 2 ^ 31 by omega), hc2 a (by omega)]
      refine zz_icmp_ne (tgt := 64) dX10_isList_57 (by decide) (fun h3 => ?_) (fun h3 => ?_)
      · refine zz_iconst (v := 0) (by decide) dX10_isList_64 ?_
        try dsimp only [zz_s1, zz_s2, zz_kill, zz_ent, zz_fl, List.set_cons_zero, List.set_cons_succ, List.getElem?_cons_zero, List.getElem?_cons_succ, Option.toList_some, Option.toList_none, List.cons_append, List.nil_append, List.append_nil, List.length_cons, List.length_nil, List.replicate_succ, List.replicate_zero, Nat.reduceAdd, Nat.reduceSub]
        refine nxt 0 ?_
        have : ¬ bt (sg a) s = true := fun z => h3 (e2.mpr z)
        simp [this]
      · skip
        refine zz_iconst (v := 1) (by decide) dX10_isList_60 ?_
        refine zz_goto (tgt := 65) dX10_isList_61 (by decide) ?_
        try dsimp only [zz_s1, zz_s2, zz_kill, zz_ent, zz_fl, List.set_cons_zero, List.set_cons_succ, List.getElem?_cons_zero, List.getElem?_cons_succ, Option.toList_some, Option.toList_none, List.cons_append, List.nil_append, List.append_nil, List.length_cons, List.length_nil, List.replicate_succ, List.replicate_zero, Nat.reduceAdd, Nat.reduceSub]
        refine nxt 1 ?_
        rw [e1.mp h2, e2.mp h3]
        rfl
  have outer : ∀ (q s : Nat) (z5 z6 : Option Value), s + q = 24 → (∀ s', s' < s → fb_ct (fun a => x.testBit a && bt (sg a) s') n ≤ l) → zz_G mX10_isList d 0 3 [some (.ref 259), some (.int (nI j)), some (.int (nI x)), some (.int (nI l)), some (.int (nI s)), z5, z6] [] M I J Q := by
    intro q
    induction q with
    | zero =>
      intro s z5 z6 hs hk
      have e : s = 24 := by omega
      subst e
      refine zz_iload rfl dX10_isList_3 ?_
      refine zz_bipush (v := 24) (by decide) dX10_isList_5 ?_
      try dsimp only [zz_s1, zz_s2, zz_kill, zz_ent, zz_fl, List.set_cons_zero, List.set_cons_succ, List.getElem?_cons_zero, List.getElem?_cons_succ, Option.toList_some, Option.toList_none, List.cons_append, List.nil_append, List.append_nil, List.length_cons, List.length_nil, List.replicate_succ, List.replicate_zero, Nat.reduceAdd, Nat.reduceSub]
      refine zz_icmp_ge (tgt := 88) dX10_isList_7 (by decide) (fun h => ?_) (fun h => ?_)
      · refine zz_iconst (v := 1) (by decide) dX10_isList_88 ?_
        refine zz_ireturn dX10_isList_89 rfl (by first | rfl | decide | assumption) ?_
        exact hQ 1 (bo.one hk)
      · exact absurd (Int32.le_refl _) h
    | succ q ih =>
      intro s z5 z6 hs hk
      have hle : fb_ct (fun a => x.testBit a && bt (sg a) s) n ≤ n := fb_ct_le _ _
      refine zz_iload rfl dX10_isList_3 ?_
      refine zz_bipush (v := 24) (by decide) dX10_isList_5 ?_
      try dsimp only [zz_s1, zz_s2, zz_kill, zz_ent, zz_fl, List.set_cons_zero, List.set_cons_succ, List.getElem?_cons_zero, List.getElem?_cons_succ, Option.toList_some, Option.toList_none, List.cons_append, List.nil_append, List.append_nil, List.length_cons, List.length_nil, List.replicate_succ, List.replicate_zero, Nat.reduceAdd, Nat.reduceSub]
      refine zz_icmp_ge (tgt := 88) dX10_isList_7 (by decide) (fun h => ?_) (fun h => ?_)
      · exact absurd h (nI_ge (b := 24) (by omega) (by decide))
      refine zz_iconst (v := 0) (by decide) dX10_isList_10 ?_
      refine zz_istore dX10_isList_11 (by decide) ?_
      refine zz_iconst (v := 0) (by decide) dX10_isList_13 ?_
      refine zz_istore dX10_isList_14 (by decide) ?_
      try dsimp only [zz_s1, zz_s2, zz_kill, zz_ent, zz_fl, List.set_cons_zero, List.set_cons_succ, List.getElem?_cons_zero, List.getElem?_cons_succ, Option.toList_some, Option.toList_none, List.cons_append, List.nil_append, List.append_nil, List.length_cons, List.length_nil, List.replicate_succ, List.replicate_zero, Nat.reduceAdd, Nat.reduceSub]
      refine inner s (by omega) (fun z6 => ?_) n 0 (by omega)
      refine zz_iload rfl dX10_isList_74 ?_
      refine zz_iload_n rfl dX10_isList_76 ?_
      try dsimp only [zz_s1, zz_s2, zz_kill, zz_ent, zz_fl, List.set_cons_zero, List.set_cons_succ, List.getElem?_cons_zero, List.getElem?_cons_succ, Option.toList_some, Option.toList_none, List.cons_append, List.nil_append, List.append_nil, List.length_cons, List.length_nil, List.replicate_succ, List.replicate_zero, Nat.reduceAdd, Nat.reduceSub]
      refine zz_icmp_le (tgt := 82) dX10_isList_77 (by decide) (fun h2 => ?_) (fun h2 => ?_)
      rotate_left
      · refine zz_iconst (v := 0) (by decide) dX10_isList_80 ?_
        refine zz_ireturn dX10_isList_81 rfl (by first | rfl | decide | assumption) ?_
        refine hQ 0 (bo.zero fun z => h2 ?_)
        exact nI_le (z s (by omega)) (by omega)
      refine zz_iinc dX10_isList_82 rfl (congrArg (HAdd.hAdd _) (show Int32.ofInt 1 = 1 by decide)) (by decide) ?_
      refine zz_goto (tgt := 3) dX10_isList_85 (by decide) ?_
      try dsimp only [zz_s1, zz_s2, zz_kill, zz_ent, zz_fl, List.set_cons_zero, List.set_cons_succ, List.getElem?_cons_zero, List.getElem?_cons_succ, Option.toList_some, Option.toList_none, List.cons_append, List.nil_append, List.append_nil, List.length_cons, List.length_nil, List.replicate_succ, List.replicate_zero, Nat.reduceAdd, Nat.reduceSub]
      rw [nI_1]
      refine ih (s + 1) _ _ (by omega) (fun s' hs' => ?_)
      by_cases e : s' = s
      · rw [e]; exact (nI_leI (by omega) (by omega)).mp h2
      · exact hk s' (by omega)
  exact outer 24 0 _ _ (by omega) (fun s' hs' => by omega)
theorem in_24 {s : Int32} : ((1 : Int64) ≤ s.toInt64 ∧ s.toInt64 ≤ 24) ↔ ∃ n : Nat, 1 ≤ n ∧ n ≤ 24 ∧ s = nI n := by
  rw [Int64.le_iff_toInt_le, Int64.le_iff_toInt_le, i2l_int, show (1 : Int64).toInt = 1 by decide, show (24 : Int64).toInt = 24 by decide]
  constructor
  · intro h
    refine ⟨s.toInt.toNat, by omega, by omega, Int32.toInt_inj.mp ?_⟩
    rw [nI_toInt (by omega)]
    omega
  · rintro ⟨n, h1, h2, rfl⟩
    rw [nI_toInt (by omega)]
    omega
variable {n : Nat → Nat} {kd ag : Nat → Int32} {E : Nat → Nat → Nat → Bool} {sg : Nat → Nat → Int32} {rw : Nat → Nat → Nat → Int32}
theorem sp_X10_list (d : Nat) (hO : OK M) {a b : Int32} (hC : ∀ j, j < 8 → ML I j (n j) (kd j) (ag j) (E j) (sg j) (rw j)) (hn : ∀ j, j < 8 → 1 ≤ n j ∧ n j ≤ 24)
    (h1 : ∀ j l, j < 8 → 1 ≤ l → l ≤ 24 → kd j = 1 → n j ≤ 16 → a = nI j → b = nI l → ∀ x : Nat, lst (fun a s => bt (sg j a) s) (n j) l x → Q (some (.int (nI (fb_ct x.testBit (n j))))) M (zz_ui I 259 30 (nI x)) J)
    (h2 : ∀ j l, j < 8 → 1 ≤ l → l ≤ 24 → kd j = 1 → ¬ n j ≤ 16 → a = nI j → b = nI l → Q (some (.int (-3))) M I J)
    (h3 : ∀ j l, j < 8 → 1 ≤ l → l ≤ 24 → ¬ kd j = 1 → a = nI j → b = nI l → Q (some (.int (-4))) M I J)
    (h4 : ¬ (∃ j l, j < 8 ∧ 1 ≤ l ∧ l ≤ 24 ∧ a = nI j ∧ b = nI l) → Q (some (.int (-2))) M I J) : zz_D mX10_list (d + 2) [.ref 259, .int a, .int b] M I J Q := by
  refine zz_D_of rfl (Nat.le_of_ble_eq_true rfl) ?_
  try dsimp only [zz_s1, zz_s2, zz_kill, zz_ent, zz_fl, List.set_cons_zero, List.set_cons_succ, List.getElem?_cons_zero, List.getElem?_cons_succ, Option.toList_some, Option.toList_none, List.cons_append, List.nil_append, List.append_nil, List.length_cons, List.length_nil, List.replicate_succ, List.replicate_zero, Nat.reduceAdd, Nat.reduceSub]
  refine zz_iload_n rfl dX10_list_0 ?_
  try dsimp only [zz_s1, zz_s2, zz_kill, zz_ent, zz_fl, List.set_cons_zero, List.set_cons_succ, List.getElem?_cons_zero, List.getElem?_cons_succ, Option.toList_some, Option.toList_none, List.cons_append, List.nil_append, List.append_nil, List.length_cons, List.length_nil, List.replicate_succ, List.replicate_zero, Nat.reduceAdd, Nat.reduceSub]
  refine zz_cS1 dX10_list_1 lX10_85 rfl (Nat.le_of_ble_eq_true rfl) (Nat.le_of_ble_eq_true rfl) ?_
  refine sp_isLine d (fun r hr => ?_)
  try dsimp only [zz_s1, zz_s2, zz_kill, zz_ent, zz_fl, List.set_cons_zero, List.set_cons_succ, List.getElem?_cons_zero, List.getElem?_cons_succ, Option.toList_some, Option.toList_none, List.cons_append, List.nil_append, List.append_nil, List.length_cons, List.length_nil, List.replicate_succ, List.replicate_zero, Nat.reduceAdd, Nat.reduceSub]
  refine zz_if_eq (tgt := 19) dX10_list_4 (by decide) (fun q0 => ?_) (fun q0 => ?_)
  · refine zz_bipush (v := (-2)) (by decide) dX10_list_19 ?_
    refine zz_ireturn dX10_list_21 rfl (by first | rfl | decide | assumption) ?_
    refine h4 (fun ⟨j', l, a1, a2, a3, a4, a5⟩ => hr.f q0 (by rw [a4]; exact vp_in_nI a1 (by decide)))
  obtain ⟨j, hj, rfl⟩ := vp_in_of (hr.t q0) (by decide)
  have hc := hC j hj
  have hnj := hn j hj
  have v1 : vp_in (nI j) 8 := vp_in_nI hj (by decide)
  have cl1 : (nI j).toNatClampNeg = j := nI_clamp (by omega)
  refine zz_iload_n rfl dX10_list_7 ?_
  refine zz_i2l dX10_list_8 ?_
  refine zz_lconst (v := 1) (by decide) dX10_list_9 ?_
  refine zz_ldc2 tX10_99 dX10_list_10 ?_
  try dsimp only [zz_s1, zz_s2, zz_kill, zz_ent, zz_fl, List.set_cons_zero, List.set_cons_succ, List.getElem?_cons_zero, List.getElem?_cons_succ, Option.toList_some, Option.toList_none, List.cons_append, List.nil_append, List.append_nil, List.length_cons, List.length_nil, List.replicate_succ, List.replicate_zero, Nat.reduceAdd, Nat.reduceSub]
  refine zz_cS3 dX10_list_13 lX10_81 rfl (Nat.le_of_ble_eq_true rfl) (Nat.le_of_ble_eq_true rfl) ?_
  refine sp_in (d + 1) (fun r2 hr2 => ?_)
  try dsimp only [zz_s1, zz_s2, zz_kill, zz_ent, zz_fl, List.set_cons_zero, List.set_cons_succ, List.getElem?_cons_zero, List.getElem?_cons_succ, Option.toList_some, Option.toList_none, List.cons_append, List.nil_append, List.append_nil, List.length_cons, List.length_nil, List.replicate_succ, List.replicate_zero, Nat.reduceAdd, Nat.reduceSub]
  refine zz_if_ne (tgt := 22) dX10_list_16 (by decide) (fun q1 => ?_) (fun q1 => ?_)
  rotate_left
  · refine zz_bipush (v := (-2)) (by decide) dX10_list_19 ?_
    refine zz_ireturn dX10_list_21 rfl (by first | rfl | decide | assumption) ?_
    exact h4 (fun ⟨j', l, a1, a2, a3, a4, a5⟩ => hr2.f q1 (in_24.mpr ⟨l, a2, a3, a5⟩))
  obtain ⟨l, l1, l2, rfl⟩ := in_24.mp (hr2.t q1)
  refine zz_aload_n rfl dX10_list_22 ?_
  refine zz_getr dX10_list_23 fX10_13 (fun _ _ _ _ => rfl) (os_259 hO) (or_259_1 hO) ?_
  refine zz_iload_n rfl dX10_list_26 ?_
  refine zz_iald dX10_list_27 (os_261 hO) v1 ?_
  refine zz_iconst (v := 1) (by decide) dX10_list_28 ?_
  try dsimp only [zz_s1, zz_s2, zz_kill, zz_ent, zz_fl, List.set_cons_zero, List.set_cons_succ, List.getElem?_cons_zero, List.getElem?_cons_succ, Option.toList_some, Option.toList_none, List.cons_append, List.nil_append, List.append_nil, List.length_cons, List.length_nil, List.replicate_succ, List.replicate_zero, Nat.reduceAdd, Nat.reduceSub]
  rw [cl1, hc.1]
  refine zz_icmp_eq (tgt := 35) dX10_list_29 (by decide) (fun q3 => ?_) (fun q3 => ?_)
  rotate_left
  · refine zz_bipush (v := (-4)) (by decide) dX10_list_32 ?_
    refine zz_ireturn dX10_list_34 rfl (by first | rfl | decide | assumption) ?_
    exact h3 j l hj l1 l2 q3 rfl rfl
  refine zz_aload_n rfl dX10_list_35 ?_
  refine zz_getr dX10_list_36 fX10_9 (fun _ _ _ _ => rfl) (os_259 hO) (or_259_0 hO) ?_
  refine zz_iload_n rfl dX10_list_39 ?_
  refine zz_iald dX10_list_40 (os_260 hO) v1 ?_
  refine zz_bipush (v := 16) (by decide) dX10_list_41 ?_
  try dsimp only [zz_s1, zz_s2, zz_kill, zz_ent, zz_fl, List.set_cons_zero, List.set_cons_succ, List.getElem?_cons_zero, List.getElem?_cons_succ, Option.toList_some, Option.toList_none, List.cons_append, List.nil_append, List.append_nil, List.length_cons, List.length_nil, List.replicate_succ, List.replicate_zero, Nat.reduceAdd, Nat.reduceSub]
  rw [cl1, hc.2.1]
  refine zz_icmp_le (tgt := 49) dX10_list_43 (by decide) (fun q4 => ?_) (fun q4 => ?_)
  rotate_left
  · refine zz_bipush (v := (-3)) (by decide) dX10_list_46 ?_
    refine zz_ireturn dX10_list_48 rfl (by first | rfl | decide | assumption) ?_
    exact h2 j l hj l1 l2 q3 (fun z => q4 (nI_le (b := 16) z (by decide))) rfl rfl
  have hn16 : n j ≤ 16 := (nI_leI (b := 16) (by omega) (by decide)).mp q4
  have hp : 2 ^ n j ≤ 2 ^ 16 := Nat.pow_le_pow_right (by decide) hn16
  have hp0 := Nat.two_pow_pos (n j)
  refine zz_iconst (v := 0) (by decide) dX10_list_49 ?_
  refine zz_istore_n dX10_list_50 (by decide) ?_
  refine zz_iconst (v := (-1)) (by decide) dX10_list_51 ?_
  refine zz_istore dX10_list_52 (by decide) ?_
  refine zz_iconst (v := 0) (by decide) dX10_list_54 ?_
  refine zz_istore dX10_list_55 (by decide) ?_
  try dsimp only [zz_s1, zz_s2, zz_kill, zz_ent, zz_fl, List.set_cons_zero, List.set_cons_succ, List.getElem?_cons_zero, List.getElem?_cons_succ, Option.toList_some, Option.toList_none, List.cons_append, List.nil_append, List.append_nil, List.length_cons, List.length_nil, List.replicate_succ, List.replicate_zero, Nat.reduceAdd, Nat.reduceSub]
  have h1' := h1 j l hj l1 l2 q3 hn16 rfl rfl
  have loop : ∀ (q t x : Nat) (mo : Int32), t + q = 2 ^ n j → ((t = 0 ∧ mo = -1 ∧ x = 0) ∨ (mo = nI (fb_ct x.testBit (n j)) ∧ x < t ∧ vld (fun a s => bt (sg j a) s) (n j) l x ∧ (∀ y, y < t → vld (fun a s => bt (sg j a) s) (n j) l y → fb_ct y.testBit (n j) ≤ fb_ct x.testBit (n j)) ∧ ∀ y, y < t → vld (fun a s => bt (sg j a) s) (n j) l y → fb_ct y.testBit (n j) = fb_ct x.testBit (n j) → x ≤ y)) → zz_G mX10_list (d + 2) 0 57 [some (.ref 259), some (.int (nI j)), some (.int (nI l)), some (.int (nI x)), some (.int mo), some (.int (nI t))] [] M I J Q := by
    intro q
    induction q with
    | zero =>
      intro t x mo ht hk
      have e : t = 2 ^ n j := by omega
      subst e
      refine zz_iload rfl dX10_list_57 ?_
      refine zz_iconst (v := 1) (by decide) dX10_list_59 ?_
      refine zz_aload_n rfl dX10_list_60 ?_
      refine zz_getr dX10_list_61 fX10_9 (fun _ _ _ _ => rfl) (os_259 hO) (or_259_0 hO) ?_
      refine zz_iload_n rfl dX10_list_64 ?_
      refine zz_iald dX10_list_65 (os_260 hO) v1 ?_
      refine zz_ishl dX10_list_66 ?_
      try dsimp only [zz_s1, zz_s2, zz_kill, zz_ent, zz_fl, List.set_cons_zero, List.set_cons_succ, List.getElem?_cons_zero, List.getElem?_cons_succ, Option.toList_some, Option.toList_none, List.cons_append, List.nil_append, List.append_nil, List.length_cons, List.length_nil, List.replicate_succ, List.replicate_zero, Nat.reduceAdd, Nat.reduceSub]
      rw [cl1, hc.2.1, shl1 (by omega)]
      refine zz_icmp_ge (tgt := 112) dX10_list_67 (by decide) (fun h => ?_) (fun h => ?_)
      · refine zz_aload_n rfl dX10_list_112 ?_
        refine zz_iload_n rfl dX10_list_113 ?_
        refine zz_puti dX10_list_114 fX10_76 rfl (fun q h => by cases h; rfl) (os_259 hO) ?_
        refine zz_iload rfl dX10_list_117 ?_
        refine zz_ireturn dX10_list_119 rfl (by first | rfl | decide | assumption) ?_
        rcases hk with z | z
        · omega
        · rw [z.1]
          exact h1' x z.2
      · exact absurd (nI_le (Nat.le_refl _) (by omega)) h
    | succ q ih =>
      intro t x mo ht hk
      have htl : t < 2 ^ n j := by omega
      have hct : fb_ct t.testBit (n j) ≤ n j := fb_ct_le _ _
      have hcx : fb_ct x.testBit (n j) ≤ n j := fb_ct_le _ _
      have skip : (mo = -1 → False) → (vld (fun a s => bt (sg j a) s) (n j) l t → ¬ mo = -1 → fb_ct t.testBit (n j) ≤ fb_ct x.testBit (n j)) → zz_G mX10_list (d + 2) 0 106 [some (.ref 259), some (.int (nI j)), some (.int (nI l)), some (.int (nI x)), some (.int mo), some (.int (nI t))] [] M I J Q := by
        intro s1 s2
        refine zz_iinc dX10_list_106 rfl (congrArg (HAdd.hAdd _) (show Int32.ofInt 1 = 1 by decide)) (by decide) ?_
        refine zz_goto (tgt := 57) dX10_list_109 (by decide) ?_
        try dsimp only [zz_s1, zz_s2, zz_kill, zz_ent, zz_fl, List.set_cons_zero, List.set_cons_succ, List.getElem?_cons_zero, List.getElem?_cons_succ, Option.toList_some, Option.toList_none, List.cons_append, List.nil_append, List.append_nil, List.length_cons, List.length_nil, List.replicate_succ, List.replicate_zero, Nat.reduceAdd, Nat.reduceSub]
        rw [nI_1]
        refine ih (t + 1) x mo (by omega) (Or.inr ?_)
        rcases hk with z | z
        · exact absurd z.2.1 s1
        · refine ⟨z.1, by omega, z.2.2.1, fun y hy hv => ?_, fun y hy hv he => ?_⟩
          · by_cases e : y = t
            · rw [e] at hv ⊢; exact s2 hv s1
            · exact z.2.2.2.1 y (by omega) hv
          · by_cases e : y = t
            · omega
            · exact z.2.2.2.2 y (by omega) hv he
      refine zz_iload rfl dX10_list_57 ?_
      refine zz_iconst (v := 1) (by decide) dX10_list_59 ?_
      refine zz_aload_n rfl dX10_list_60 ?_
      refine zz_getr dX10_list_61 fX10_9 (fun _ _ _ _ => rfl) (os_259 hO) (or_259_0 hO) ?_
      refine zz_iload_n rfl dX10_list_64 ?_
      refine zz_iald dX10_list_65 (os_260 hO) v1 ?_
      refine zz_ishl dX10_list_66 ?_
      try dsimp only [zz_s1, zz_s2, zz_kill, zz_ent, zz_fl, List.set_cons_zero, List.set_cons_succ, List.getElem?_cons_zero, List.getElem?_cons_succ, Option.toList_some, Option.toList_none, List.cons_append, List.nil_append, List.append_nil, List.length_cons, List.length_nil, List.replicate_succ, List.replicate_zero, Nat.reduceAdd, Nat.reduceSub]
      rw [cl1, hc.2.1, shl1 (by omega)]
      refine zz_icmp_ge (tgt := 112) dX10_list_67 (by decide) (fun h => ?_) (fun h => ?_)
      · exact absurd h (nI_ge (by omega) (by omega))
      refine zz_iload rfl dX10_list_70 ?_
      refine zz_i2l dX10_list_72 ?_
      try dsimp only [zz_s1, zz_s2, zz_kill, zz_ent, zz_fl, List.set_cons_zero, List.set_cons_succ, List.getElem?_cons_zero, List.getElem?_cons_succ, Option.toList_some, Option.toList_none, List.cons_append, List.nil_append, List.append_nil, List.length_cons, List.length_nil, List.replicate_succ, List.replicate_zero, Nat.reduceAdd, Nat.reduceSub]
      refine zz_cS1 dX10_list_73 lX10_139 rfl (Nat.le_of_ble_eq_true rfl) (Nat.le_of_ble_eq_true rfl) ?_
      refine sp_bits (d + 1) ?_
      try dsimp only [zz_s1, zz_s2, zz_kill, zz_ent, zz_fl, List.set_cons_zero, List.set_cons_succ, List.getElem?_cons_zero, List.getElem?_cons_succ, Option.toList_some, Option.toList_none, List.cons_append, List.nil_append, List.append_nil, List.length_cons, List.length_nil, List.replicate_succ, List.replicate_zero, Nat.reduceAdd, Nat.reduceSub]
      rw [pop_L htl hn16]
      refine zz_iload rfl dX10_list_76 ?_
      try dsimp only [zz_s1, zz_s2, zz_kill, zz_ent, zz_fl, List.set_cons_zero, List.set_cons_succ, List.getElem?_cons_zero, List.getElem?_cons_succ, Option.toList_some, Option.toList_none, List.cons_append, List.nil_append, List.append_nil, List.length_cons, List.length_nil, List.replicate_succ, List.replicate_zero, Nat.reduceAdd, Nat.reduceSub]
      refine zz_icmp_le (tgt := 106) dX10_list_78 (by decide) (fun h5 => ?_) (fun h5 => ?_)
      · refine skip (fun z => ?_) (fun hv _ => ?_)
        · rw [z, Int32.le_iff_toInt_le, nI_toInt (by omega)] at h5
          have : (-1 : Int32).toInt = -1 := by decide
          omega
        · rcases hk with z | z
          · exfalso
            rw [z.2.1, Int32.le_iff_toInt_le, nI_toInt (by omega)] at h5
            have : (-1 : Int32).toInt = -1 := by decide
            omega
          · rw [z.1] at h5
            exact (nI_leI (by omega) (by omega)).mp h5
      refine zz_aload_n rfl dX10_list_81 ?_
      refine zz_iload_n rfl dX10_list_82 ?_
      refine zz_iload rfl dX10_list_83 ?_
      refine zz_iload_n rfl dX10_list_85 ?_
      try dsimp only [zz_s1, zz_s2, zz_kill, zz_ent, zz_fl, List.set_cons_zero, List.set_cons_succ, List.getElem?_cons_zero, List.getElem?_cons_succ, Option.toList_some, Option.toList_none, List.cons_append, List.nil_append, List.append_nil, List.length_cons, List.length_nil, List.replicate_succ, List.replicate_zero, Nat.reduceAdd, Nat.reduceSub]
      refine zz_cV3 dX10_list_86 lX10_257 rfl (os_259 hO) rfl rfl (Nat.le_of_ble_eq_true rfl) (Nat.le_of_ble_eq_true rfl) ?_
      refine sp_isList (d + 1) hO hj hnj.2 l2 (by omega) hc.2.1 hc.2.2.2.2.1 (fun r3 hr3 => ?_)
      try dsimp only [zz_s1, zz_s2, zz_kill, zz_ent, zz_fl, List.set_cons_zero, List.set_cons_succ, List.getElem?_cons_zero, List.getElem?_cons_succ, Option.toList_some, Option.toList_none, List.cons_append, List.nil_append, List.append_nil, List.length_cons, List.length_nil, List.replicate_succ, List.replicate_zero, Nat.reduceAdd, Nat.reduceSub]
      refine zz_if_ne (tgt := 95) dX10_list_89 (by decide) (fun h6 => ?_) (fun h6 => ?_)
      rotate_left
      · skip
        have hno := hr3.f h6
        refine zz_goto (tgt := 106) dX10_list_92 (by decide) ?_
        try dsimp only [zz_s1, zz_s2, zz_kill, zz_ent, zz_fl, List.set_cons_zero, List.set_cons_succ, List.getElem?_cons_zero, List.getElem?_cons_succ, Option.toList_some, Option.toList_none, List.cons_append, List.nil_append, List.append_nil, List.length_cons, List.length_nil, List.replicate_succ, List.replicate_zero, Nat.reduceAdd, Nat.reduceSub]
        refine skip (fun z => ?_) (fun hv _ => absurd hv hno)
        rcases hk with y | y
        · refine hno (fun s _ => ?_)
          rw [y.1, show fb_ct (fun a => (0 : Nat).testBit a && bt (sg j a) s) (n j) = 0 from fb_ct_zero.mpr (fun k _ => by simp)]
          omega
        · rw [y.1] at z
          exact nI_nm1 (by omega) z
      have hyes := hr3.t h6
      refine zz_iload rfl dX10_list_95 ?_
      refine zz_i2l dX10_list_97 ?_
      try dsimp only [zz_s1, zz_s2, zz_kill, zz_ent, zz_fl, List.set_cons_zero, List.set_cons_succ, List.getElem?_cons_zero, List.getElem?_cons_succ, Option.toList_some, Option.toList_none, List.cons_append, List.nil_append, List.append_nil, List.length_cons, List.length_nil, List.replicate_succ, List.replicate_zero, Nat.reduceAdd, Nat.reduceSub]
      refine zz_cS1 dX10_list_98 lX10_139 rfl (Nat.le_of_ble_eq_true rfl) (Nat.le_of_ble_eq_true rfl) ?_
      refine sp_bits (d + 1) ?_
      try dsimp only [zz_s1, zz_s2, zz_kill, zz_ent, zz_fl, List.set_cons_zero, List.set_cons_succ, List.getElem?_cons_zero, List.getElem?_cons_succ, Option.toList_some, Option.toList_none, List.cons_append, List.nil_append, List.append_nil, List.length_cons, List.length_nil, List.replicate_succ, List.replicate_zero, Nat.reduceAdd, Nat.reduceSub]
      rw [pop_L htl hn16]
      refine zz_istore dX10_list_101 (by decide) ?_
      refine zz_iload rfl dX10_list_103 ?_
      refine zz_istore_n dX10_list_105 (by decide) ?_
      refine zz_iinc dX10_list_106 rfl (congrArg (HAdd.hAdd _) (show Int32.ofInt 1 = 1 by decide)) (by decide) ?_
      refine zz_goto (tgt := 57) dX10_list_109 (by decide) ?_
      try dsimp only [zz_s1, zz_s2, zz_kill, zz_ent, zz_fl, List.set_cons_zero, List.set_cons_succ, List.getElem?_cons_zero, List.getElem?_cons_succ, Option.toList_some, Option.toList_none, List.cons_append, List.nil_append, List.append_nil, List.length_cons, List.length_nil, List.replicate_succ, List.replicate_zero, Nat.reduceAdd, Nat.reduceSub]
      rw [nI_1]
      refine ih (t + 1) t _ (by omega) (Or.inr ⟨rfl, by omega, hyes, fun y hy hv => ?_, fun y hy hv he => ?_⟩)
      · by_cases e : y = t
        · rw [e]; exact Nat.le_refl _
        · rcases hk with z | z
          · omega
          · have h8 := z.2.2.2.1 y (by omega) hv
            have : ¬ fb_ct t.testBit (n j) ≤ fb_ct x.testBit (n j) := fun w => h5 (by rw [z.1]; exact nI_le w (by omega))
            omega
      · by_cases e : y = t
        · omega
        · rcases hk with z | z
          · omega
          · have h8 := z.2.2.2.1 y (by omega) hv
            have : ¬ fb_ct t.testBit (n j) ≤ fb_ct x.testBit (n j) := fun w => h5 (by rw [z.1]; exact nI_le w (by omega))
            omega
  exact loop (2 ^ n j) 0 0 (-1) (by omega) (Or.inl ⟨rfl, rfl, rfl⟩)
end PListM

