/-! ===== powers in parts: the reference ===== -/
section PPowM
variable {M : zz_M} {I : zz_I} {J : zz_J} {Q : zz_Q}
theorem sp_X10_raise (d : Nat) {c u s t : Nat} (hs : zz_is M c 2 12) (hu : u < 1000000000) (hs1 : s < 2 ^ 25) (ht : t ≤ 1000) (hQ : ∀ J' : zz_J, (∀ a, a ≠ c → J' a = J a) → (∀ i, i < 12 → J' c i = lN (dg 1000000000 (u * s ^ t) i)) → Q none M I J') : zz_D mX10_raise d [.ref c, .int (nI u), .long (lN s), .int (nI t)] M I J Q := by
  refine zz_D_of rfl (Nat.le_of_ble_eq_true rfl) ?_
  try dsimp only [zz_s1, zz_s2, zz_kill, zz_ent, zz_fl, List.set_cons_zero, List.set_cons_succ, List.getElem?_cons_zero, List.getElem?_cons_succ, Option.toList_some, Option.toList_none, List.cons_append, List.nil_append, List.append_nil, List.length_cons, List.length_nil, List.replicate_succ, List.replicate_zero, Nat.reduceAdd, Nat.reduceSub]
  refine zz_iconst (v := 0) (by decide) dX10_raise_0 ?_
  refine zz_istore dX10_raise_1 (by decide) ?_
  try dsimp only [zz_s1, zz_s2, zz_kill, zz_ent, zz_fl, List.set_cons_zero, List.set_cons_succ, List.getElem?_cons_zero, List.getElem?_cons_succ, Option.toList_some, Option.toList_none, List.cons_append, List.nil_append, List.append_nil, List.length_cons, List.length_nil, List.replicate_succ, List.replicate_zero, Nat.reduceAdd, Nat.reduceSub]
  have inner : ∀ (q i st v : Nat) (Jx : zz_J) (z9 : Option Value), i + q = 12 → (∀ a, a ≠ c → Jx a = J a) → (∀ j, j < i → Jx c j = lN (dg 1000000000 (v * s) j)) → (∀ j, i ≤ j → j < 12 → Jx c j = lN (dg 1000000000 v j)) → (∀ (Jy : zz_J) (z4 z6 z7 : Option Value), (∀ a, a ≠ c → Jy a = J a) → (∀ j, j < 12 → Jy c j = lN (dg 1000000000 (v * s) j)) → zz_G mX10_raise d 0 84 [some (.ref c), some (.int (nI u)), some (.long (lN s)), none, some (.int (nI t)), some (.int (nI st)), z4, none, z6, z7, none] [] M I Jy Q) → zz_G mX10_raise d 0 42 [some (.ref c), some (.int (nI u)), some (.long (lN s)), none, some (.int (nI t)), some (.int (nI st)), some (.long (lN (cy 1000000000 s v i))), none, some (.int (nI i)), z9, none] [] M I Jx Q := by
    intro q
    induction q with
    | zero =>
      intro i st v Jx z7 hi f1 f2 f3 hk
      refine zz_iload rfl dX10_raise_42 ?_
      refine zz_bipush (v := 12) (by decide) dX10_raise_44 ?_
      try dsimp only [zz_s1, zz_s2, zz_kill, zz_ent, zz_fl, List.set_cons_zero, List.set_cons_succ, List.getElem?_cons_zero, List.getElem?_cons_succ, Option.toList_some, Option.toList_none, List.cons_append, List.nil_append, List.append_nil, List.length_cons, List.length_nil, List.replicate_succ, List.replicate_zero, Nat.reduceAdd, Nat.reduceSub]
      refine zz_icmp_ge (tgt := 84) dX10_raise_46 (by decide) (fun h => ?_) (fun h => ?_)
      · exact hk Jx _ _ _ f1 (fun j hj => f2 j (by omega))
      · exact absurd (nI_le (a := 12) (b := i) (by omega) (by omega)) h
    | succ q ih =>
      intro i st v Jx z7 hi f1 f2 f3 hk
      have hp := dg_le (B := 1000000000) (by decide) s v i
      refine zz_iload rfl dX10_raise_42 ?_
      refine zz_bipush (v := 12) (by decide) dX10_raise_44 ?_
      try dsimp only [zz_s1, zz_s2, zz_kill, zz_ent, zz_fl, List.set_cons_zero, List.set_cons_succ, List.getElem?_cons_zero, List.getElem?_cons_succ, Option.toList_some, Option.toList_none, List.cons_append, List.nil_append, List.append_nil, List.length_cons, List.length_nil, List.replicate_succ, List.replicate_zero, Nat.reduceAdd, Nat.reduceSub]
      refine zz_icmp_ge (tgt := 84) dX10_raise_46 (by decide) (fun h => ?_) (fun h => ?_)
      · exact absurd h (nI_ge (b := 12) (by omega) (by decide))
      · skip
        refine zz_aload_n rfl dX10_raise_49 ?_
        refine zz_iload rfl dX10_raise_50 ?_
        refine zz_lald dX10_raise_52 hs (vp_in_nI (by omega) (by decide)) ?_
        refine zz_lload_n rfl dX10_raise_53 ?_
        refine zz_lmul dX10_raise_54 ?_
        refine zz_lload rfl dX10_raise_55 ?_
        refine zz_ladd dX10_raise_57 ?_
        refine zz_lstore dX10_raise_58 (by decide) ?_
        refine zz_aload_n rfl dX10_raise_60 ?_
        refine zz_iload rfl dX10_raise_61 ?_
        refine zz_lload rfl dX10_raise_63 ?_
        refine zz_ldc2 tX10_234 dX10_raise_65 ?_
        refine zz_lrem (by decide) dX10_raise_68 ?_
        refine zz_last dX10_raise_69 hs (vp_in_nI (by omega) (by decide)) ?_
        refine zz_lload rfl dX10_raise_70 ?_
        refine zz_ldc2 tX10_234 dX10_raise_72 ?_
        refine zz_ldiv (by decide) dX10_raise_75 ?_
        refine zz_lstore dX10_raise_76 (by decide) ?_
        refine zz_iinc dX10_raise_78 rfl (congrArg (HAdd.hAdd _) (show Int32.ofInt 1 = 1 by decide)) (by decide) ?_
        refine zz_goto (tgt := 42) dX10_raise_81 (by decide) ?_
        try dsimp only [zz_s1, zz_s2, zz_kill, zz_ent, zz_fl, List.set_cons_zero, List.set_cons_succ, List.getElem?_cons_zero, List.getElem?_cons_succ, Option.toList_some, Option.toList_none, List.cons_append, List.nil_append, List.append_nil, List.length_cons, List.length_nil, List.replicate_succ, List.replicate_zero, Nat.reduceAdd, Nat.reduceSub]
        rw [nI_1, nI_clamp (show i < 2 ^ 31 by omega), f3 i (Nat.le_refl _) (by omega), lN_mul, lN_add]
        rw [show jv_lrem (lN (dg 1000000000 v i * s + cy 1000000000 s v i)) (1000000000 : Int64) = lN ((dg 1000000000 v i * s + cy 1000000000 s v i) % 1000000000) from pk_lRem (by omega) (by decide) (by decide)]
        rw [show lN (dg 1000000000 v i * s + cy 1000000000 s v i) / (1000000000 : Int64) = lN ((dg 1000000000 v i * s + cy 1000000000 s v i) / 1000000000) from pk_lDiv (by omega) (by decide) (by decide)]
        rw [dg_mod (by decide), dg_div (by decide)]
        refine ih (i + 1) st v _ _ (by omega) (fun a ha => ?_) (fun j hj => ?_) (fun j hj hj4 => ?_) hk
        · rw [zz_uj_ne _ _ _ ha]; exact f1 a ha
        · rw [zz_uj_at]
          by_cases e : j = i
          · rw [e, pk_uLs]
          · rw [pk_uLn e]; exact f2 j (by omega)
        · rw [zz_uj_at, pk_uLn (by omega)]; exact f3 j (by omega) hj4
  have outer : ∀ (q st : Nat) (Jx : zz_J) (z4 z6 z7 : Option Value), st + q = t → (∀ a, a ≠ c → Jx a = J a) → (∀ j, j < 12 → Jx c j = lN (dg 1000000000 (u * s ^ st) j)) → zz_G mX10_raise d 0 29 [some (.ref c), some (.int (nI u)), some (.long (lN s)), none, some (.int (nI t)), some (.int (nI st)), z4, none, z6, z7, none] [] M I Jx Q := by
    intro q
    induction q with
    | zero =>
      intro st Jx z4 z6 z7 hi f1 f2
      have e : st = t := by omega
      subst e
      refine zz_iload rfl dX10_raise_29 ?_
      refine zz_iload rfl dX10_raise_31 ?_
      try dsimp only [zz_s1, zz_s2, zz_kill, zz_ent, zz_fl, List.set_cons_zero, List.set_cons_succ, List.getElem?_cons_zero, List.getElem?_cons_succ, Option.toList_some, Option.toList_none, List.cons_append, List.nil_append, List.append_nil, List.length_cons, List.length_nil, List.replicate_succ, List.replicate_zero, Nat.reduceAdd, Nat.reduceSub]
      refine zz_icmp_ge (tgt := 90) dX10_raise_33 (by decide) (fun h => ?_) (fun h => ?_)
      · refine zz_return dX10_raise_90 rfl ?_
        exact hQ Jx f1 f2
      · exact absurd (nI_le (Nat.le_refl _) (by omega)) h
    | succ q ih =>
      intro st Jx z4 z6 z7 hi f1 f2
      refine zz_iload rfl dX10_raise_29 ?_
      refine zz_iload rfl dX10_raise_31 ?_
      try dsimp only [zz_s1, zz_s2, zz_kill, zz_ent, zz_fl, List.set_cons_zero, List.set_cons_succ, List.getElem?_cons_zero, List.getElem?_cons_succ, Option.toList_some, Option.toList_none, List.cons_append, List.nil_append, List.append_nil, List.length_cons, List.length_nil, List.replicate_succ, List.replicate_zero, Nat.reduceAdd, Nat.reduceSub]
      refine zz_icmp_ge (tgt := 90) dX10_raise_33 (by decide) (fun h => ?_) (fun h => ?_)
      · exact absurd h (nI_ge (by omega) (by omega))
      · skip
        refine zz_lconst (v := 0) (by decide) dX10_raise_36 ?_
        refine zz_lstore dX10_raise_37 (by decide) ?_
        refine zz_iconst (v := 0) (by decide) dX10_raise_39 ?_
        refine zz_istore dX10_raise_40 (by decide) ?_
        try dsimp only [zz_s1, zz_s2, zz_kill, zz_ent, zz_fl, List.set_cons_zero, List.set_cons_succ, List.getElem?_cons_zero, List.getElem?_cons_succ, Option.toList_some, Option.toList_none, List.cons_append, List.nil_append, List.append_nil, List.length_cons, List.length_nil, List.replicate_succ, List.replicate_zero, Nat.reduceAdd, Nat.reduceSub]
        have hin := inner 12 0 st (u * s ^ st) Jx z7 (by omega) f1 (fun j hj => by omega) (fun j _ hj => f2 j hj)
        rw [cy_0] at hin
        refine hin (fun Jy z4 z6 z7 g1 g2 => ?_)
        refine zz_iinc dX10_raise_84 rfl (congrArg (HAdd.hAdd _) (show Int32.ofInt 1 = 1 by decide)) (by decide) ?_
        refine zz_goto (tgt := 29) dX10_raise_87 (by decide) ?_
        try dsimp only [zz_s1, zz_s2, zz_kill, zz_ent, zz_fl, List.set_cons_zero, List.set_cons_succ, List.getElem?_cons_zero, List.getElem?_cons_succ, Option.toList_some, Option.toList_none, List.cons_append, List.nil_append, List.append_nil, List.length_cons, List.length_nil, List.replicate_succ, List.replicate_zero, Nat.reduceAdd, Nat.reduceSub]
        rw [nI_1]
        exact ih (st + 1) Jy _ _ _ (by omega) g1 (fun j hj => by rw [Nat.pow_succ, ← Nat.mul_assoc]; exact g2 j hj)
  have init : ∀ (q i : Nat) (Jx : zz_J), i + q = 12 → (∀ a, a ≠ c → Jx a = J a) → (∀ j, j < i → Jx c j = 0) → zz_G mX10_raise d 0 3 [some (.ref c), some (.int (nI u)), some (.long (lN s)), none, some (.int (nI t)), some (.int (nI i)), none, none, none, none, none] [] M I Jx Q := by
    intro q
    induction q with
    | zero =>
      intro i Jx hi f1 f2
      refine zz_iload rfl dX10_raise_3 ?_
      refine zz_bipush (v := 12) (by decide) dX10_raise_5 ?_
      try dsimp only [zz_s1, zz_s2, zz_kill, zz_ent, zz_fl, List.set_cons_zero, List.set_cons_succ, List.getElem?_cons_zero, List.getElem?_cons_succ, Option.toList_some, Option.toList_none, List.cons_append, List.nil_append, List.append_nil, List.length_cons, List.length_nil, List.replicate_succ, List.replicate_zero, Nat.reduceAdd, Nat.reduceSub]
      refine zz_icmp_ge (tgt := 21) dX10_raise_7 (by decide) (fun h => ?_) (fun h => ?_)
      · refine zz_aload_n rfl dX10_raise_21 ?_
        refine zz_iconst (v := 0) (by decide) dX10_raise_22 ?_
        refine zz_iload_n rfl dX10_raise_23 ?_
        refine zz_i2l dX10_raise_24 ?_
        refine zz_last dX10_raise_25 hs (vp_in_nI (n := 0) (by decide) (by decide)) ?_
        refine zz_iconst (v := 0) (by decide) dX10_raise_26 ?_
        refine zz_istore dX10_raise_27 (by decide) ?_
        try dsimp only [zz_s1, zz_s2, zz_kill, zz_ent, zz_fl, List.set_cons_zero, List.set_cons_succ, List.getElem?_cons_zero, List.getElem?_cons_succ, Option.toList_some, Option.toList_none, List.cons_append, List.nil_append, List.append_nil, List.length_cons, List.length_nil, List.replicate_succ, List.replicate_zero, Nat.reduceAdd, Nat.reduceSub]
        refine outer t 0 _ _ _ _ (by omega) (fun a ha => ?_) (fun j hj => ?_)
        · rw [zz_uj_ne _ _ _ ha]; exact f1 a ha
        · rw [zz_uj_at, Nat.pow_zero, Nat.mul_one]
          by_cases e : j = 0
          · rw [e, dg_0 hu, nI_l (by omega)]; exact pk_uLs
          · rw [dg_s hu (by omega)]
            refine Eq.trans (pk_uLn (k := 0) e) ?_
            exact f2 j (by omega)
      · exact absurd (nI_le (a := 12) (b := i) (by omega) (by omega)) h
    | succ q ih =>
      intro i Jx hi f1 f2
      refine zz_iload rfl dX10_raise_3 ?_
      refine zz_bipush (v := 12) (by decide) dX10_raise_5 ?_
      try dsimp only [zz_s1, zz_s2, zz_kill, zz_ent, zz_fl, List.set_cons_zero, List.set_cons_succ, List.getElem?_cons_zero, List.getElem?_cons_succ, Option.toList_some, Option.toList_none, List.cons_append, List.nil_append, List.append_nil, List.length_cons, List.length_nil, List.replicate_succ, List.replicate_zero, Nat.reduceAdd, Nat.reduceSub]
      refine zz_icmp_ge (tgt := 21) dX10_raise_7 (by decide) (fun h => ?_) (fun h => ?_)
      · exact absurd h (nI_ge (b := 12) (by omega) (by decide))
      · skip
        refine zz_aload_n rfl dX10_raise_10 ?_
        refine zz_iload rfl dX10_raise_11 ?_
        refine zz_lconst (v := 0) (by decide) dX10_raise_13 ?_
        refine zz_last dX10_raise_14 hs (vp_in_nI (by omega) (by decide)) ?_
        refine zz_iinc dX10_raise_15 rfl (congrArg (HAdd.hAdd _) (show Int32.ofInt 1 = 1 by decide)) (by decide) ?_
        refine zz_goto (tgt := 3) dX10_raise_18 (by decide) ?_
        try dsimp only [zz_s1, zz_s2, zz_kill, zz_ent, zz_fl, List.set_cons_zero, List.set_cons_succ, List.getElem?_cons_zero, List.getElem?_cons_succ, Option.toList_some, Option.toList_none, List.cons_append, List.nil_append, List.append_nil, List.length_cons, List.length_nil, List.replicate_succ, List.replicate_zero, Nat.reduceAdd, Nat.reduceSub]
        rw [nI_1, nI_clamp (show i < 2 ^ 31 by omega)]
        refine ih (i + 1) _ (by omega) (fun a ha => ?_) (fun j hj => ?_)
        · rw [zz_uj_ne _ _ _ ha]; exact f1 a ha
        · rw [zz_uj_at]
          by_cases e : j = i
          · rw [e, pk_uLs]
          · rw [pk_uLn e]; exact f2 j (by omega)
  exact init 12 0 J (by omega) (fun a _ => rfl) (fun j hj => by omega)
theorem sp_X10_held (d : Nat) (hO : OK M) {v w : Nat} (hv : v < 1000000000 ^ 12) (hw : w < 1000000000 ^ 12) (g5 : ∀ i, i < 12 → J 274 i = lN (dg 1000000000 v i)) (g4 : ∀ i, i < 12 → J 275 i = lN (dg 1000000000 w i)) (hQ2 : Q (some (.int (cmN v w))) M I J) : zz_D mX10_held d [.ref 259] M I J Q := by
  refine zz_D_of rfl (Nat.le_of_ble_eq_true rfl) ?_
  try dsimp only [zz_s1, zz_s2, zz_kill, zz_ent, zz_fl, List.set_cons_zero, List.set_cons_succ, List.getElem?_cons_zero, List.getElem?_cons_succ, Option.toList_some, Option.toList_none, List.cons_append, List.nil_append, List.append_nil, List.length_cons, List.length_nil, List.replicate_succ, List.replicate_zero, Nat.reduceAdd, Nat.reduceSub]
  refine zz_bipush (v := 11) (by decide) dX10_held_0 ?_
  refine zz_istore_n dX10_held_2 (by decide) ?_
  try dsimp only [zz_s1, zz_s2, zz_kill, zz_ent, zz_fl, List.set_cons_zero, List.set_cons_succ, List.getElem?_cons_zero, List.getElem?_cons_succ, Option.toList_some, Option.toList_none, List.cons_append, List.nil_append, List.append_nil, List.length_cons, List.length_nil, List.replicate_succ, List.replicate_zero, Nat.reduceAdd, Nat.reduceSub]
  have loop : ∀ q, q ≤ 12 → v / 1000000000 ^ q = w / 1000000000 ^ q → zz_G mX10_held d 0 3 [some (.ref 259), some (.int (nI q + (-1)))] [] M I J Q := by
    intro q
    induction q with
    | zero =>
      intro hq he
      rw [Nat.pow_zero, Nat.div_one, Nat.div_one] at he
      refine zz_iload_n rfl dX10_held_3 ?_
      try dsimp only [zz_s1, zz_s2, zz_kill, zz_ent, zz_fl, List.set_cons_zero, List.set_cons_succ, List.getElem?_cons_zero, List.getElem?_cons_succ, Option.toList_some, Option.toList_none, List.cons_append, List.nil_append, List.append_nil, List.length_cons, List.length_nil, List.replicate_succ, List.replicate_zero, Nat.reduceAdd, Nat.reduceSub]
      refine zz_if_lt (tgt := 51) dX10_held_4 (by decide) (fun h => ?_) (fun h => ?_)
      · refine zz_iconst (v := 0) (by decide) dX10_held_51 ?_
        refine zz_ireturn dX10_held_52 rfl (by first | rfl | decide | assumption) ?_
        rw [he] at hQ2
        unfold cmN at hQ2
        rw [if_neg (Nat.lt_irrefl _), if_neg (Nat.lt_irrefl _)] at hQ2
        exact hQ2
      · exact absurd nI_d0 h
    | succ q ih =>
      intro hq he
      obtain ⟨s1, s2⟩ := cm_step he
      have s3 := (cm_step he.symm).2
      have l1 := dg_lt (B := 1000000000) (by decide) v q
      have l2 := dg_lt (B := 1000000000) (by decide) w q
      rw [nI_dn]
      refine zz_iload_n rfl dX10_held_3 ?_
      try dsimp only [zz_s1, zz_s2, zz_kill, zz_ent, zz_fl, List.set_cons_zero, List.set_cons_succ, List.getElem?_cons_zero, List.getElem?_cons_succ, Option.toList_some, Option.toList_none, List.cons_append, List.nil_append, List.append_nil, List.length_cons, List.length_nil, List.replicate_succ, List.replicate_zero, Nat.reduceAdd, Nat.reduceSub]
      refine zz_if_lt (tgt := 51) dX10_held_4 (by decide) (fun h => ?_) (fun h => ?_)
      · exact absurd h (nI_nn (by omega))
      · skip
        refine zz_aload_n rfl dX10_held_7 ?_
        refine zz_getr dX10_held_8 fX10_67 (fun _ _ _ _ => rfl) (os_259 hO) (or_259_26 hO) ?_
        refine zz_iload_n rfl dX10_held_11 ?_
        refine zz_lald dX10_held_12 (os_274 hO) (vp_in_nI (by omega) (by decide)) ?_
        refine zz_aload_n rfl dX10_held_13 ?_
        refine zz_getr dX10_held_14 fX10_70 (fun _ _ _ _ => rfl) (os_259 hO) (or_259_27 hO) ?_
        refine zz_iload_n rfl dX10_held_17 ?_
        refine zz_lald dX10_held_18 (os_275 hO) (vp_in_nI (by omega) (by decide)) ?_
        refine zz_lcmp dX10_held_19 ?_
        try dsimp only [zz_s1, zz_s2, zz_kill, zz_ent, zz_fl, List.set_cons_zero, List.set_cons_succ, List.getElem?_cons_zero, List.getElem?_cons_succ, Option.toList_some, Option.toList_none, List.cons_append, List.nil_append, List.append_nil, List.length_cons, List.length_nil, List.replicate_succ, List.replicate_zero, Nat.reduceAdd, Nat.reduceSub]
        rw [nI_clamp (show q < 2 ^ 31 by omega), g5 q (by omega), g4 q (by omega)]
        refine zz_if_eq (tgt := 45) dX10_held_20 (by decide) (fun h2 => ?_) (fun h2 => ?_)
        · refine zz_iinc dX10_held_45 rfl (congrArg (HAdd.hAdd _) (show Int32.ofInt (-1) = (-1) by decide)) (by decide) ?_
          refine zz_goto (tgt := 3) dX10_held_48 (by decide) ?_
          try dsimp only [zz_s1, zz_s2, zz_kill, zz_ent, zz_fl, List.set_cons_zero, List.set_cons_succ, List.getElem?_cons_zero, List.getElem?_cons_succ, Option.toList_some, Option.toList_none, List.cons_append, List.nil_append, List.append_nil, List.length_cons, List.length_nil, List.replicate_succ, List.replicate_zero, Nat.reduceAdd, Nat.reduceSub]
          exact ih (by omega) (s1 ((pk_lEQ (by omega) (by omega)).mp (cmp_eq.mp h2)))
        · skip
          refine zz_aload_n rfl dX10_held_23 ?_
          refine zz_getr dX10_held_24 fX10_67 (fun _ _ _ _ => rfl) (os_259 hO) (or_259_26 hO) ?_
          refine zz_iload_n rfl dX10_held_27 ?_
          refine zz_lald dX10_held_28 (os_274 hO) (vp_in_nI (by omega) (by decide)) ?_
          refine zz_aload_n rfl dX10_held_29 ?_
          refine zz_getr dX10_held_30 fX10_70 (fun _ _ _ _ => rfl) (os_259 hO) (or_259_27 hO) ?_
          refine zz_iload_n rfl dX10_held_33 ?_
          refine zz_lald dX10_held_34 (os_275 hO) (vp_in_nI (by omega) (by decide)) ?_
          refine zz_lcmp dX10_held_35 ?_
          try dsimp only [zz_s1, zz_s2, zz_kill, zz_ent, zz_fl, List.set_cons_zero, List.set_cons_succ, List.getElem?_cons_zero, List.getElem?_cons_succ, Option.toList_some, Option.toList_none, List.cons_append, List.nil_append, List.append_nil, List.length_cons, List.length_nil, List.replicate_succ, List.replicate_zero, Nat.reduceAdd, Nat.reduceSub]
          rw [nI_clamp (show q < 2 ^ 31 by omega), g5 q (by omega), g4 q (by omega)]
          refine zz_if_ge (tgt := 43) dX10_held_36 (by decide) (fun h3 => ?_) (fun h3 => ?_)
          · refine zz_iconst (v := 1) (by decide) dX10_held_43 ?_
            refine zz_ireturn dX10_held_44 rfl (by first | rfl | decide | assumption) ?_
            have n1 : ¬ dg 1000000000 v q < dg 1000000000 w q := fun z => absurd (cmp_lt.mpr ((pk_lLT (by omega) (by omega)).mpr z)) (Int32.not_lt.mpr h3)
            have n2 : ¬ dg 1000000000 v q = dg 1000000000 w q := fun z => h2 (cmp_eq.mpr (by rw [z]))
            have n3 := s3 (by omega)
            unfold cmN at hQ2
            rw [if_neg (by omega), if_pos n3] at hQ2
            exact hQ2
          · skip
            refine zz_iconst (v := (-1)) (by decide) dX10_held_39 ?_
            refine zz_goto (tgt := 44) dX10_held_40 (by decide) ?_
            refine zz_ireturn dX10_held_44 rfl (by first | rfl | decide | assumption) ?_
            have n3 := s2 ((pk_lLT (by omega) (by omega)).mp (cmp_lt.mp (Int32.not_le.mp h3)))
            unfold cmN at hQ2
            rw [if_pos n3] at hQ2
            exact hQ2
  rw [show (11 : Int32) = nI 12 + (-1) by decide]
  exact loop 12 (Nat.le_refl _) (by rw [Nat.div_eq_of_lt hv, Nat.div_eq_of_lt hw])
theorem sp_X10_heldRates (d : Nat) (hO : OK M) {s k t j : Nat} (hs : s ≤ 1000) (ht : t ≤ 1000) (hk : k ≤ 12) (hj : j ≤ 12) (hQ : ∀ J' : zz_J, (∀ a, a ≠ 274 → a ≠ 275 → J' a = J a) → Q (some (.int (cmN (s ^ j) (t ^ k)))) M I J') : zz_D mX10_heldRates (d + 1) [.ref 259, .int (nI s), .int (nI k), .int (nI t), .int (nI j)] M I J Q := by
  have b1 := pw_le hs hj
  have b2 := pw_le ht hk
  have c1 : (1000 : Nat) ^ 12 < 1000000000 ^ 12 := by decide
  refine zz_D_of rfl (Nat.le_of_ble_eq_true rfl) ?_
  try dsimp only [zz_s1, zz_s2, zz_kill, zz_ent, zz_fl, List.set_cons_zero, List.set_cons_succ, List.getElem?_cons_zero, List.getElem?_cons_succ, Option.toList_some, Option.toList_none, List.cons_append, List.nil_append, List.append_nil, List.length_cons, List.length_nil, List.replicate_succ, List.replicate_zero, Nat.reduceAdd, Nat.reduceSub]
  refine zz_aload_n rfl dX10_heldRates_0 ?_
  refine zz_getr dX10_heldRates_1 fX10_67 (fun _ _ _ _ => rfl) (os_259 hO) (or_259_26 hO) ?_
  refine zz_iconst (v := 1) (by decide) dX10_heldRates_4 ?_
  refine zz_iload_n rfl dX10_heldRates_5 ?_
  refine zz_i2l dX10_heldRates_6 ?_
  refine zz_iload rfl dX10_heldRates_7 ?_
  try dsimp only [zz_s1, zz_s2, zz_kill, zz_ent, zz_fl, List.set_cons_zero, List.set_cons_succ, List.getElem?_cons_zero, List.getElem?_cons_succ, Option.toList_some, Option.toList_none, List.cons_append, List.nil_append, List.append_nil, List.length_cons, List.length_nil, List.replicate_succ, List.replicate_zero, Nat.reduceAdd, Nat.reduceSub]
  rw [nI_l (by omega)]
  refine zz_cS4 dX10_heldRates_9 lX10_236 rfl (Nat.le_of_ble_eq_true rfl) (Nat.le_of_ble_eq_true rfl) ?_
  refine sp_X10_raise d (u := 1) (os_274 hO) (by decide) (by omega) (by omega) (fun J1 g1 g2 => ?_)
  try dsimp only [zz_s1, zz_s2, zz_kill, zz_ent, zz_fl, List.set_cons_zero, List.set_cons_succ, List.getElem?_cons_zero, List.getElem?_cons_succ, Option.toList_some, Option.toList_none, List.cons_append, List.nil_append, List.append_nil, List.length_cons, List.length_nil, List.replicate_succ, List.replicate_zero, Nat.reduceAdd, Nat.reduceSub]
  refine zz_aload_n rfl dX10_heldRates_12 ?_
  refine zz_getr dX10_heldRates_13 fX10_70 (fun _ _ _ _ => rfl) (os_259 hO) (or_259_27 hO) ?_
  refine zz_iconst (v := 1) (by decide) dX10_heldRates_16 ?_
  refine zz_iload_n rfl dX10_heldRates_17 ?_
  refine zz_i2l dX10_heldRates_18 ?_
  refine zz_iload_n rfl dX10_heldRates_19 ?_
  try dsimp only [zz_s1, zz_s2, zz_kill, zz_ent, zz_fl, List.set_cons_zero, List.set_cons_succ, List.getElem?_cons_zero, List.getElem?_cons_succ, Option.toList_some, Option.toList_none, List.cons_append, List.nil_append, List.append_nil, List.length_cons, List.length_nil, List.replicate_succ, List.replicate_zero, Nat.reduceAdd, Nat.reduceSub]
  rw [nI_l (by omega)]
  refine zz_cS4 dX10_heldRates_20 lX10_236 rfl (Nat.le_of_ble_eq_true rfl) (Nat.le_of_ble_eq_true rfl) ?_
  refine sp_X10_raise d (u := 1) (os_275 hO) (by decide) (by omega) (by omega) (fun J2 g3 g4 => ?_)
  try dsimp only [zz_s1, zz_s2, zz_kill, zz_ent, zz_fl, List.set_cons_zero, List.set_cons_succ, List.getElem?_cons_zero, List.getElem?_cons_succ, Option.toList_some, Option.toList_none, List.cons_append, List.nil_append, List.append_nil, List.length_cons, List.length_nil, List.replicate_succ, List.replicate_zero, Nat.reduceAdd, Nat.reduceSub]
  refine zz_aload_n rfl dX10_heldRates_23 ?_
  try dsimp only [zz_s1, zz_s2, zz_kill, zz_ent, zz_fl, List.set_cons_zero, List.set_cons_succ, List.getElem?_cons_zero, List.getElem?_cons_succ, Option.toList_some, Option.toList_none, List.cons_append, List.nil_append, List.append_nil, List.length_cons, List.length_nil, List.replicate_succ, List.replicate_zero, Nat.reduceAdd, Nat.reduceSub]
  rw [Nat.one_mul] at g2 g4
  refine zz_cV0 dX10_heldRates_24 lX10_240 rfl (os_259 hO) rfl rfl (Nat.le_of_ble_eq_true rfl) (Nat.le_of_ble_eq_true rfl) ?_
  refine sp_X10_held d hO (v := s ^ j) (w := t ^ k) (by omega) (by omega) (fun i hi => by rw [g3 274 (by decide)]; exact g2 i hi) g4 ?_
  try dsimp only [zz_s1, zz_s2, zz_kill, zz_ent, zz_fl, List.set_cons_zero, List.set_cons_succ, List.getElem?_cons_zero, List.getElem?_cons_succ, Option.toList_some, Option.toList_none, List.cons_append, List.nil_append, List.append_nil, List.length_cons, List.length_nil, List.replicate_succ, List.replicate_zero, Nat.reduceAdd, Nat.reduceSub]
  refine zz_ireturn dX10_heldRates_27 rfl (by first | rfl | decide | assumption) ?_
  exact hQ J2 (fun a h1 h2 => by rw [g3 a h2]; exact g1 a h1)
theorem sp_X10_compare (d : Nat) (hO : OK M) {s k t j : Int32} (h1 : ¬ cmok s k t j → Q (some (.int (-2))) M I J) (h2 : ∀ s' k' t' j' : Nat, s = nI s' → k = nI k' → t = nI t' → j = nI j' → cmok s k t j → s' ≤ 1000 → t' ≤ 1000 → k' ≤ 12 → j' ≤ 12 → ∀ J' : zz_J, (∀ a, a ≠ 274 → a ≠ 275 → J' a = J a) → Q (some (.int (cmN (s' ^ j') (t' ^ k')))) M I J') : zz_D mX10_compare (d + 2) [.ref 259, .int s, .int k, .int t, .int j] M I J Q := by
  refine zz_D_of rfl (Nat.le_of_ble_eq_true rfl) ?_
  try dsimp only [zz_s1, zz_s2, zz_kill, zz_ent, zz_fl, List.set_cons_zero, List.set_cons_succ, List.getElem?_cons_zero, List.getElem?_cons_succ, Option.toList_some, Option.toList_none, List.cons_append, List.nil_append, List.append_nil, List.length_cons, List.length_nil, List.replicate_succ, List.replicate_zero, Nat.reduceAdd, Nat.reduceSub]
  refine zz_iload_n rfl dX10_compare_0 ?_
  refine zz_i2l dX10_compare_1 ?_
  refine zz_lconst (v := 1) (by decide) dX10_compare_2 ?_
  refine zz_ldc2 tX10_244 dX10_compare_3 ?_
  try dsimp only [zz_s1, zz_s2, zz_kill, zz_ent, zz_fl, List.set_cons_zero, List.set_cons_succ, List.getElem?_cons_zero, List.getElem?_cons_succ, Option.toList_some, Option.toList_none, List.cons_append, List.nil_append, List.append_nil, List.length_cons, List.length_nil, List.replicate_succ, List.replicate_zero, Nat.reduceAdd, Nat.reduceSub]
  have bad1 : ¬ cmok s k t j → zz_G mX10_compare (d + 2) 0 61 [some (.ref 259), some (.int s), some (.int k), some (.int t), some (.int j)] [] M I J Q := by
    intro hb
    refine zz_bipush (v := (-2)) (by decide) dX10_compare_61 ?_
    refine zz_ireturn dX10_compare_63 rfl (by first | rfl | decide | assumption) ?_
    exact h1 hb
  refine zz_cS3 dX10_compare_6 lX10_81 rfl (Nat.le_of_ble_eq_true rfl) (Nat.le_of_ble_eq_true rfl) ?_
  refine sp_in (d + 1) (fun r1 hr1 => ?_)
  try dsimp only [zz_s1, zz_s2, zz_kill, zz_ent, zz_fl, List.set_cons_zero, List.set_cons_succ, List.getElem?_cons_zero, List.getElem?_cons_succ, Option.toList_some, Option.toList_none, List.cons_append, List.nil_append, List.append_nil, List.length_cons, List.length_nil, List.replicate_succ, List.replicate_zero, Nat.reduceAdd, Nat.reduceSub]
  refine zz_if_eq (tgt := 61) dX10_compare_9 (by decide) (fun a1 => ?_) (fun a1 => ?_)
  · exact bad1 fun q => hr1.f a1 (in_1k.mpr q.1)
  refine zz_iload_n rfl dX10_compare_12 ?_
  refine zz_i2l dX10_compare_13 ?_
  refine zz_lconst (v := 1) (by decide) dX10_compare_14 ?_
  refine zz_ldc2 tX10_244 dX10_compare_15 ?_
  try dsimp only [zz_s1, zz_s2, zz_kill, zz_ent, zz_fl, List.set_cons_zero, List.set_cons_succ, List.getElem?_cons_zero, List.getElem?_cons_succ, Option.toList_some, Option.toList_none, List.cons_append, List.nil_append, List.append_nil, List.length_cons, List.length_nil, List.replicate_succ, List.replicate_zero, Nat.reduceAdd, Nat.reduceSub]
  refine zz_cS3 dX10_compare_18 lX10_81 rfl (Nat.le_of_ble_eq_true rfl) (Nat.le_of_ble_eq_true rfl) ?_
  refine sp_in (d + 1) (fun r2 hr2 => ?_)
  try dsimp only [zz_s1, zz_s2, zz_kill, zz_ent, zz_fl, List.set_cons_zero, List.set_cons_succ, List.getElem?_cons_zero, List.getElem?_cons_succ, Option.toList_some, Option.toList_none, List.cons_append, List.nil_append, List.append_nil, List.length_cons, List.length_nil, List.replicate_succ, List.replicate_zero, Nat.reduceAdd, Nat.reduceSub]
  refine zz_if_eq (tgt := 61) dX10_compare_21 (by decide) (fun a2 => ?_) (fun a2 => ?_)
  · exact bad1 fun q => hr2.f a2 (in_1k.mpr q.2.1)
  refine zz_iload_n rfl dX10_compare_24 ?_
  refine zz_i2l dX10_compare_25 ?_
  refine zz_lconst (v := 1) (by decide) dX10_compare_26 ?_
  refine zz_ldc2 tX10_246 dX10_compare_27 ?_
  try dsimp only [zz_s1, zz_s2, zz_kill, zz_ent, zz_fl, List.set_cons_zero, List.set_cons_succ, List.getElem?_cons_zero, List.getElem?_cons_succ, Option.toList_some, Option.toList_none, List.cons_append, List.nil_append, List.append_nil, List.length_cons, List.length_nil, List.replicate_succ, List.replicate_zero, Nat.reduceAdd, Nat.reduceSub]
  refine zz_cS3 dX10_compare_30 lX10_81 rfl (Nat.le_of_ble_eq_true rfl) (Nat.le_of_ble_eq_true rfl) ?_
  refine sp_in (d + 1) (fun r3 hr3 => ?_)
  try dsimp only [zz_s1, zz_s2, zz_kill, zz_ent, zz_fl, List.set_cons_zero, List.set_cons_succ, List.getElem?_cons_zero, List.getElem?_cons_succ, Option.toList_some, Option.toList_none, List.cons_append, List.nil_append, List.append_nil, List.length_cons, List.length_nil, List.replicate_succ, List.replicate_zero, Nat.reduceAdd, Nat.reduceSub]
  refine zz_if_eq (tgt := 61) dX10_compare_33 (by decide) (fun a3 => ?_) (fun a3 => ?_)
  · exact bad1 fun q => hr3.f a3 (in_12.mpr q.2.2.1)
  refine zz_iload rfl dX10_compare_36 ?_
  refine zz_i2l dX10_compare_38 ?_
  refine zz_lconst (v := 1) (by decide) dX10_compare_39 ?_
  refine zz_ldc2 tX10_246 dX10_compare_40 ?_
  try dsimp only [zz_s1, zz_s2, zz_kill, zz_ent, zz_fl, List.set_cons_zero, List.set_cons_succ, List.getElem?_cons_zero, List.getElem?_cons_succ, Option.toList_some, Option.toList_none, List.cons_append, List.nil_append, List.append_nil, List.length_cons, List.length_nil, List.replicate_succ, List.replicate_zero, Nat.reduceAdd, Nat.reduceSub]
  refine zz_cS3 dX10_compare_43 lX10_81 rfl (Nat.le_of_ble_eq_true rfl) (Nat.le_of_ble_eq_true rfl) ?_
  refine sp_in (d + 1) (fun r4 hr4 => ?_)
  try dsimp only [zz_s1, zz_s2, zz_kill, zz_ent, zz_fl, List.set_cons_zero, List.set_cons_succ, List.getElem?_cons_zero, List.getElem?_cons_succ, Option.toList_some, Option.toList_none, List.cons_append, List.nil_append, List.append_nil, List.length_cons, List.length_nil, List.replicate_succ, List.replicate_zero, Nat.reduceAdd, Nat.reduceSub]
  refine zz_if_eq (tgt := 61) dX10_compare_46 (by decide) (fun a4 => ?_) (fun a4 => ?_)
  · exact bad1 fun q => hr4.f a4 (in_12.mpr q.2.2.2)
  have hok : cmok s k t j := ⟨in_1k.mp (hr1.t a1), in_1k.mp (hr2.t a2), in_12.mp (hr3.t a3), in_12.mp (hr4.t a4)⟩
  obtain ⟨⟨s', u1, u2, rfl⟩, ⟨t', u3, u4, rfl⟩, ⟨k', u5, u6, rfl⟩, ⟨j', u7, u8, rfl⟩⟩ := id hok
  refine zz_aload_n rfl dX10_compare_49 ?_
  refine zz_iload_n rfl dX10_compare_50 ?_
  refine zz_iload_n rfl dX10_compare_51 ?_
  refine zz_iload_n rfl dX10_compare_52 ?_
  refine zz_iload rfl dX10_compare_53 ?_
  try dsimp only [zz_s1, zz_s2, zz_kill, zz_ent, zz_fl, List.set_cons_zero, List.set_cons_succ, List.getElem?_cons_zero, List.getElem?_cons_succ, Option.toList_some, Option.toList_none, List.cons_append, List.nil_append, List.append_nil, List.length_cons, List.length_nil, List.replicate_succ, List.replicate_zero, Nat.reduceAdd, Nat.reduceSub]
  refine zz_cV4 dX10_compare_55 lX10_248 rfl (os_259 hO) rfl rfl (Nat.le_of_ble_eq_true rfl) (Nat.le_of_ble_eq_true rfl) ?_
  refine sp_X10_heldRates d hO u2 u4 u6 u8 (fun J' g => ?_)
  try dsimp only [zz_s1, zz_s2, zz_kill, zz_ent, zz_fl, List.set_cons_zero, List.set_cons_succ, List.getElem?_cons_zero, List.getElem?_cons_succ, Option.toList_some, Option.toList_none, List.cons_append, List.nil_append, List.append_nil, List.length_cons, List.length_nil, List.replicate_succ, List.replicate_zero, Nat.reduceAdd, Nat.reduceSub]
  refine zz_goto (tgt := 63) dX10_compare_58 (by decide) ?_
  refine zz_ireturn dX10_compare_63 rfl (by first | rfl | decide | assumption) ?_
  exact h2 s' k' t' j' rfl rfl rfl rfl hok u2 u4 u6 u8 J' g
end PPowM

