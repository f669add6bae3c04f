/-! ===== Line ===== -/
section PLine
variable {M : zz_M} {I : zz_I} {J : zz_J} {Q : zz_Q} {l : Nat}
theorem sp_X3_has (d : Nat) (hO : OK M) (hl : l < 8) {a : Int32} (hQ : ∀ r : Int32, (r = 1 ∧ 0 ≤ a ∧ a < I (LN l) 1) ∨ (r = 0 ∧ ¬ (0 ≤ a ∧ a < I (LN l) 1)) → Q (some (.int r)) M I J) : zz_D mX3_has d [.ref (LN l), .int a] M I J Q := by
  refine zz_D_of rfl (Nat.le_of_ble_eq_true rfl) ?_
  try dsimp only [zz_s1, zz_s2, zz_kill, zz_ent, zz_fl, List.set_cons_zero, List.set_cons_succ, List.getElem?_cons_zero, List.getElem?_cons_succ, Option.toList_some, Option.toList_none, List.cons_append, List.nil_append, List.append_nil, List.length_cons, List.length_nil, List.replicate_succ, List.replicate_zero, Nat.reduceAdd, Nat.reduceSub]
  refine zz_iload_n rfl dX3_has_0 ?_
  try dsimp only [zz_s1, zz_s2, zz_kill, zz_ent, zz_fl, List.set_cons_zero, List.set_cons_succ, List.getElem?_cons_zero, List.getElem?_cons_succ, Option.toList_some, Option.toList_none, List.cons_append, List.nil_append, List.append_nil, List.length_cons, List.length_nil, List.replicate_succ, List.replicate_zero, Nat.reduceAdd, Nat.reduceSub]
  refine zz_if_lt (tgt := 16) dX3_has_1 (by decide) (fun h => ?_) (fun h => ?_)
  · refine zz_iconst (v := 0) (by decide) dX3_has_16 ?_
    refine zz_ireturn dX3_has_17 rfl (by first | rfl | decide | assumption) ?_
    exact hQ 0 (Or.inr ⟨rfl, fun q => Int32.not_lt.mpr q.1 h⟩)
  · skip
    refine zz_iload_n rfl dX3_has_4 ?_
    refine zz_aload_n rfl dX3_has_5 ?_
    refine zz_geti dX3_has_6 fX3_15 rfl (ol_obj hO hl) ?_
    try dsimp only [zz_s1, zz_s2, zz_kill, zz_ent, zz_fl, List.set_cons_zero, List.set_cons_succ, List.getElem?_cons_zero, List.getElem?_cons_succ, Option.toList_some, Option.toList_none, List.cons_append, List.nil_append, List.append_nil, List.length_cons, List.length_nil, List.replicate_succ, List.replicate_zero, Nat.reduceAdd, Nat.reduceSub]
    refine zz_icmp_ge (tgt := 16) dX3_has_9 (by decide) (fun h2 => ?_) (fun h2 => ?_)
    · refine zz_iconst (v := 0) (by decide) dX3_has_16 ?_
      refine zz_ireturn dX3_has_17 rfl (by first | rfl | decide | assumption) ?_
      exact hQ 0 (Or.inr ⟨rfl, fun q => Int32.not_lt.mpr h2 q.2⟩)
    · skip
      refine zz_iconst (v := 1) (by decide) dX3_has_12 ?_
      refine zz_goto (tgt := 17) dX3_has_13 (by decide) ?_
      refine zz_ireturn dX3_has_17 rfl (by first | rfl | decide | assumption) ?_
      exact hQ 1 (Or.inl ⟨rfl, Int32.not_lt.mp h, Int32.not_le.mp h2⟩)
/-- is b among those that a is mistaken with -/
def bt1 (x b : Int32) : Prop := ¬ (jv_ushr x b &&& 1 = 0)
theorem sp_X3_mistakes (d : Nat) (hO : OK M) (hl : l < 8) {a b : Int32} (ha : vp_in a 24) (hQ : ∀ r : Int32, (r = 1 ∧ bt1 (I (LN l + 1) a.toNatClampNeg) b) ∨ (r = 0 ∧ ¬ bt1 (I (LN l + 1) a.toNatClampNeg) b) → Q (some (.int r)) M I J) : zz_D mX3_mistakes d [.ref (LN l), .int a, .int b] M I J Q := by
  refine zz_D_of rfl (Nat.le_of_ble_eq_true rfl) ?_
  try dsimp only [zz_s1, zz_s2, zz_kill, zz_ent, zz_fl, List.set_cons_zero, List.set_cons_succ, List.getElem?_cons_zero, List.getElem?_cons_succ, Option.toList_some, Option.toList_none, List.cons_append, List.nil_append, List.append_nil, List.length_cons, List.length_nil, List.replicate_succ, List.replicate_zero, Nat.reduceAdd, Nat.reduceSub]
  refine zz_aload_n rfl dX3_mistakes_0 ?_
  refine zz_getr dX3_mistakes_1 fX3_21 (fun _ _ _ _ => rfl) (ol_obj hO hl) (olr_near hO hl) ?_
  refine zz_iload_n rfl dX3_mistakes_4 ?_
  refine zz_iald dX3_mistakes_5 (ol_near hO hl) ha ?_
  refine zz_iload_n rfl dX3_mistakes_6 ?_
  refine zz_iushr dX3_mistakes_7 ?_
  refine zz_iconst (v := 1) (by decide) dX3_mistakes_8 ?_
  refine zz_iand dX3_mistakes_9 ?_
  try dsimp only [zz_s1, zz_s2, zz_kill, zz_ent, zz_fl, List.set_cons_zero, List.set_cons_succ, List.getElem?_cons_zero, List.getElem?_cons_succ, Option.toList_some, Option.toList_none, List.cons_append, List.nil_append, List.append_nil, List.length_cons, List.length_nil, List.replicate_succ, List.replicate_zero, Nat.reduceAdd, Nat.reduceSub]
  refine zz_if_eq (tgt := 17) dX3_mistakes_10 (by decide) (fun h => ?_) (fun h => ?_)
  · refine zz_iconst (v := 0) (by decide) dX3_mistakes_17 ?_
    refine zz_ireturn dX3_mistakes_18 rfl (by first | rfl | decide | assumption) ?_
    exact hQ 0 (Or.inr ⟨rfl, fun q => q h⟩)
  · skip
    refine zz_iconst (v := 1) (by decide) dX3_mistakes_13 ?_
    refine zz_goto (tgt := 18) dX3_mistakes_14 (by decide) ?_
    refine zz_ireturn dX3_mistakes_18 rfl (by first | rfl | decide | assumption) ?_
    exact hQ 1 (Or.inl ⟨rfl, h⟩)
theorem sp_X3_alike (d : Nat) (hO : OK M) (hl : l < 8) {a b : Int32} (ha : vp_in a 24) (hQ : ∀ r : Int32, (r = 1 ∧ (a = b ∨ bt1 (I (LN l + 1) a.toNatClampNeg) b)) ∨ (r = 0 ∧ ¬ (a = b ∨ bt1 (I (LN l + 1) a.toNatClampNeg) b)) → Q (some (.int r)) M I J) : zz_D mX3_alike (d + 1) [.ref (LN l), .int a, .int b] M I J Q := by
  refine zz_D_of rfl (Nat.le_of_ble_eq_true rfl) ?_
  try dsimp only [zz_s1, zz_s2, zz_kill, zz_ent, zz_fl, List.set_cons_zero, List.set_cons_succ, List.getElem?_cons_zero, List.getElem?_cons_succ, Option.toList_some, Option.toList_none, List.cons_append, List.nil_append, List.append_nil, List.length_cons, List.length_nil, List.replicate_succ, List.replicate_zero, Nat.reduceAdd, Nat.reduceSub]
  refine zz_iload_n rfl dX3_alike_0 ?_
  refine zz_iload_n rfl dX3_alike_1 ?_
  try dsimp only [zz_s1, zz_s2, zz_kill, zz_ent, zz_fl, List.set_cons_zero, List.set_cons_succ, List.getElem?_cons_zero, List.getElem?_cons_succ, Option.toList_some, Option.toList_none, List.cons_append, List.nil_append, List.append_nil, List.length_cons, List.length_nil, List.replicate_succ, List.replicate_zero, Nat.reduceAdd, Nat.reduceSub]
  refine zz_icmp_eq (tgt := 14) dX3_alike_2 (by decide) (fun h => ?_) (fun h => ?_)
  · refine zz_iconst (v := 1) (by decide) dX3_alike_14 ?_
    refine zz_goto (tgt := 19) dX3_alike_15 (by decide) ?_
    refine zz_ireturn dX3_alike_19 rfl (by first | rfl | decide | assumption) ?_
    exact hQ 1 (Or.inl ⟨rfl, Or.inl h⟩)
  · skip
    refine zz_aload_n rfl dX3_alike_5 ?_
    refine zz_iload_n rfl dX3_alike_6 ?_
    refine zz_iload_n rfl dX3_alike_7 ?_
    try dsimp only [zz_s1, zz_s2, zz_kill, zz_ent, zz_fl, List.set_cons_zero, List.set_cons_succ, List.getElem?_cons_zero, List.getElem?_cons_succ, Option.toList_some, Option.toList_none, List.cons_append, List.nil_append, List.append_nil, List.length_cons, List.length_nil, List.replicate_succ, List.replicate_zero, Nat.reduceAdd, Nat.reduceSub]
    refine zz_cV2 dX3_alike_8 lX3_40 rfl (ol_obj hO hl) rfl rfl (Nat.le_of_ble_eq_true rfl) (Nat.le_of_ble_eq_true rfl) ?_
    refine sp_X3_mistakes d hO hl ha (fun r hr => ?_)
    try dsimp only [zz_s1, zz_s2, zz_kill, zz_ent, zz_fl, List.set_cons_zero, List.set_cons_succ, List.getElem?_cons_zero, List.getElem?_cons_succ, Option.toList_some, Option.toList_none, List.cons_append, List.nil_append, List.append_nil, List.length_cons, List.length_nil, List.replicate_succ, List.replicate_zero, Nat.reduceAdd, Nat.reduceSub]
    refine zz_if_eq (tgt := 18) dX3_alike_11 (by decide) (fun h2 => ?_) (fun h2 => ?_)
    · refine zz_iconst (v := 0) (by decide) dX3_alike_18 ?_
      refine zz_ireturn dX3_alike_19 rfl (by first | rfl | decide | assumption) ?_
      rcases hr with ⟨rfl, h3⟩ | ⟨-, h3⟩
      · exact absurd h2 (by decide)
      · exact hQ 0 (Or.inr ⟨rfl, fun q => q.elim h h3⟩)
    · skip
      refine zz_iconst (v := 1) (by decide) dX3_alike_14 ?_
      refine zz_goto (tgt := 19) dX3_alike_15 (by decide) ?_
      refine zz_ireturn dX3_alike_19 rfl (by first | rfl | decide | assumption) ?_
      rcases hr with ⟨-, h3⟩ | ⟨rfl, h3⟩
      · exact hQ 1 (Or.inl ⟨rfl, Or.inr h3⟩)
      · exact absurd rfl h2
theorem sp_X3_flip (d : Nat) (hO : OK M) (hl : l < 8) {a b : Int32} (ha : vp_in a 24) (hb : vp_in b 24) (hQ : ∀ I' : zz_I, (∀ c, c ≠ LN l + 1 → I' c = I c) → I' (LN l + 1) = upd (upd (I (LN l + 1)) a.toNatClampNeg (I (LN l + 1) a.toNatClampNeg ^^^ (1 <<< (b &&& 31)))) b.toNatClampNeg (upd (I (LN l + 1)) a.toNatClampNeg (I (LN l + 1) a.toNatClampNeg ^^^ (1 <<< (b &&& 31))) b.toNatClampNeg ^^^ (1 <<< (a &&& 31))) → Q none M I' J) : zz_D mX3_flip d [.ref (LN l), .int a, .int b] M I J Q := by
  refine zz_D_of rfl (Nat.le_of_ble_eq_true rfl) ?_
  try dsimp only [zz_s1, zz_s2, zz_kill, zz_ent, zz_fl, List.set_cons_zero, List.set_cons_succ, List.getElem?_cons_zero, List.getElem?_cons_succ, Option.toList_some, Option.toList_none, List.cons_append, List.nil_append, List.append_nil, List.length_cons, List.length_nil, List.replicate_succ, List.replicate_zero, Nat.reduceAdd, Nat.reduceSub]
  refine zz_aload_n rfl dX3_flip_0 ?_
  refine zz_getr dX3_flip_1 fX3_21 (fun _ _ _ _ => rfl) (ol_obj hO hl) (olr_near hO hl) ?_
  refine zz_iload_n rfl dX3_flip_4 ?_
  refine zz_dup2 rfl rfl dX3_flip_5 ?_
  refine zz_iald dX3_flip_6 (ol_near hO hl) ha ?_
  refine zz_iconst (v := 1) (by decide) dX3_flip_7 ?_
  refine zz_iload_n rfl dX3_flip_8 ?_
  refine zz_ishl dX3_flip_9 ?_
  refine zz_ixor dX3_flip_10 ?_
  refine zz_iast dX3_flip_11 (ol_near hO hl) ha ?_
  refine zz_aload_n rfl dX3_flip_12 ?_
  refine zz_getr dX3_flip_13 fX3_21 (fun _ _ _ _ => rfl) (ol_obj hO hl) (olr_near hO hl) ?_
  refine zz_iload_n rfl dX3_flip_16 ?_
  refine zz_dup2 rfl rfl dX3_flip_17 ?_
  refine zz_iald dX3_flip_18 (ol_near hO hl) hb ?_
  refine zz_iconst (v := 1) (by decide) dX3_flip_19 ?_
  refine zz_iload_n rfl dX3_flip_20 ?_
  refine zz_ishl dX3_flip_21 ?_
  refine zz_ixor dX3_flip_22 ?_
  refine zz_iast dX3_flip_23 (ol_near hO hl) hb ?_
  refine zz_return dX3_flip_24 rfl ?_
  refine hQ _ (fun c hc => ?_) ?_
  · rw [zz_ui_ne _ _ _ hc, zz_ui_ne _ _ _ hc]
  · rw [zz_ui_at, zz_ui_at]
theorem sp_X3_clearRows (d : Nat) (hO : OK M) (hl : l < 8) (hQ : ∀ I' : zz_I, (∀ c, (c < LN l + 4 ∨ LN l + 29 ≤ c) → I' c = I c) → (∀ a i, a < 25 → i < 6 → I' (LN l + 4 + a) i = 0) → Q none M I' J) : zz_D mX3_clearRows d [.ref (LN l)] M I J Q := by
  refine zz_D_of rfl (Nat.le_of_ble_eq_true rfl) ?_
  try dsimp only [zz_s1, zz_s2, zz_kill, zz_ent, zz_fl, List.set_cons_zero, List.set_cons_succ, List.getElem?_cons_zero, List.getElem?_cons_succ, Option.toList_some, Option.toList_none, List.cons_append, List.nil_append, List.append_nil, List.length_cons, List.length_nil, List.replicate_succ, List.replicate_zero, Nat.reduceAdd, Nat.reduceSub]
  refine zz_iconst (v := 0) (by decide) dX3_clearRows_0 ?_
  refine zz_istore_n dX3_clearRows_1 (by decide) ?_
  try dsimp only [zz_s1, zz_s2, zz_kill, zz_ent, zz_fl, List.set_cons_zero, List.set_cons_succ, List.getElem?_cons_zero, List.getElem?_cons_succ, Option.toList_some, Option.toList_none, List.cons_append, List.nil_append, List.append_nil, List.length_cons, List.length_nil, List.replicate_succ, List.replicate_zero, Nat.reduceAdd, Nat.reduceSub]
  have outer : ∀ (n a : Nat) (Ix : zz_I), a + n = 25 → (∀ c, (c < LN l + 4 ∨ LN l + 29 ≤ c) → Ix c = I c) → (∀ b i, b < a → i < 6 → Ix (LN l + 4 + b) i = 0) → ∀ z : Option Value, zz_G mX3_clearRows d 0 2 [some (.ref (LN l)), some (.int (nI a)), z] [] M Ix J Q := by
    intro n
    induction n with
    | zero =>
      intro a Ix ha h1 h2 z
      have e : a = 25 := by omega
      subst e
      refine zz_iload_n rfl dX3_clearRows_2 ?_
      refine zz_bipush (v := 24) (by decide) dX3_clearRows_3 ?_
      try dsimp only [zz_s1, zz_s2, zz_kill, zz_ent, zz_fl, List.set_cons_zero, List.set_cons_succ, List.getElem?_cons_zero, List.getElem?_cons_succ, Option.toList_some, Option.toList_none, List.cons_append, List.nil_append, List.append_nil, List.length_cons, List.length_nil, List.replicate_succ, List.replicate_zero, Nat.reduceAdd, Nat.reduceSub]
      refine zz_icmp_gt (tgt := 37) dX3_clearRows_5 (by decide) (fun h => ?_) (fun h => ?_)
      · refine zz_return dX3_clearRows_37 rfl ?_
        exact hQ Ix h1 (fun b i hb hi => h2 b i hb hi)
      · exact absurd (by decide) h
    | succ n ih =>
      intro a Ix ha h1 h2 z
      refine zz_iload_n rfl dX3_clearRows_2 ?_
      refine zz_bipush (v := 24) (by decide) dX3_clearRows_3 ?_
      try dsimp only [zz_s1, zz_s2, zz_kill, zz_ent, zz_fl, List.set_cons_zero, List.set_cons_succ, List.getElem?_cons_zero, List.getElem?_cons_succ, Option.toList_some, Option.toList_none, List.cons_append, List.nil_append, List.append_nil, List.length_cons, List.length_nil, List.replicate_succ, List.replicate_zero, Nat.reduceAdd, Nat.reduceSub]
      refine zz_icmp_gt (tgt := 37) dX3_clearRows_5 (by decide) (fun h => ?_) (fun h => ?_)
      · exact absurd h (nI_nlt (a := 24) (b := a) (by omega) (by omega))
      · skip
        refine zz_iconst (v := 0) (by decide) dX3_clearRows_8 ?_
        refine zz_istore_n dX3_clearRows_9 (by decide) ?_
        try dsimp only [zz_s1, zz_s2, zz_kill, zz_ent, zz_fl, List.set_cons_zero, List.set_cons_succ, List.getElem?_cons_zero, List.getElem?_cons_succ, Option.toList_some, Option.toList_none, List.cons_append, List.nil_append, List.append_nil, List.length_cons, List.length_nil, List.replicate_succ, List.replicate_zero, Nat.reduceAdd, Nat.reduceSub]
        have inn : ∀ (q i : Nat) (Iy : zz_I), i + q = 6 → (∀ c, (c < LN l + 4 ∨ LN l + 29 ≤ c) → Iy c = I c) → (∀ b j, b < a → j < 6 → Iy (LN l + 4 + b) j = 0) → (∀ j, j < i → Iy (LN l + 4 + a) j = 0) → zz_G mX3_clearRows d 0 10 [some (.ref (LN l)), some (.int (nI a)), some (.int (nI i))] [] M Iy J Q := by
          intro q
          induction q with
          | zero =>
            intro i Iy hi g1 g2 g3
            have e : i = 6 := by omega
            subst e
            refine zz_iload_n rfl dX3_clearRows_10 ?_
            refine zz_bipush (v := 6) (by decide) dX3_clearRows_11 ?_
            try dsimp only [zz_s1, zz_s2, zz_kill, zz_ent, zz_fl, List.set_cons_zero, List.set_cons_succ, List.getElem?_cons_zero, List.getElem?_cons_succ, Option.toList_some, Option.toList_none, List.cons_append, List.nil_append, List.append_nil, List.length_cons, List.length_nil, List.replicate_succ, List.replicate_zero, Nat.reduceAdd, Nat.reduceSub]
            refine zz_icmp_ge (tgt := 31) dX3_clearRows_13 (by decide) (fun h5 => ?_) (fun h5 => ?_)
            · refine zz_iinc dX3_clearRows_31 rfl (congrArg (HAdd.hAdd _) (show Int32.ofInt 1 = 1 by decide)) (by decide) ?_
              refine zz_goto (tgt := 2) dX3_clearRows_34 (by decide) ?_
              try dsimp only [zz_s1, zz_s2, zz_kill, zz_ent, zz_fl, List.set_cons_zero, List.set_cons_succ, List.getElem?_cons_zero, List.getElem?_cons_succ, Option.toList_some, Option.toList_none, List.cons_append, List.nil_append, List.append_nil, List.length_cons, List.length_nil, List.replicate_succ, List.replicate_zero, Nat.reduceAdd, Nat.reduceSub]
              rw [nI_1]
              refine ih (a + 1) Iy (by omega) g1 (fun b j hb hj => ?_) _
              by_cases e : b = a
              · subst e
                exact g3 j hj
              · exact g2 b j (by omega) hj
            · exact absurd (by decide) h5
          | succ q ih2 =>
            intro i Iy hi g1 g2 g3
            refine zz_iload_n rfl dX3_clearRows_10 ?_
            refine zz_bipush (v := 6) (by decide) dX3_clearRows_11 ?_
            try dsimp only [zz_s1, zz_s2, zz_kill, zz_ent, zz_fl, List.set_cons_zero, List.set_cons_succ, List.getElem?_cons_zero, List.getElem?_cons_succ, Option.toList_some, Option.toList_none, List.cons_append, List.nil_append, List.append_nil, List.length_cons, List.length_nil, List.replicate_succ, List.replicate_zero, Nat.reduceAdd, Nat.reduceSub]
            refine zz_icmp_ge (tgt := 31) dX3_clearRows_13 (by decide) (fun h5 => ?_) (fun h5 => ?_)
            · exact absurd h5 (nI_ge (a := i) (b := 6) (by omega) (by omega))
            · skip
              refine zz_aload_n rfl dX3_clearRows_16 ?_
              refine zz_getr dX3_clearRows_17 fX3_30 (fun _ _ _ _ => rfl) (ol_obj hO hl) (olr_num hO hl) ?_
              refine zz_iload_n rfl dX3_clearRows_20 ?_
              refine zz_aaldI dX3_clearRows_21 (ol_num hO hl) (vp_in_nI (by omega) (by omega)) (olr_row hO hl (by rw [nI_clamp (by omega)]; omega)) ?_
              refine zz_iload_n rfl dX3_clearRows_22 ?_
              refine zz_iconst (v := 0) (by decide) dX3_clearRows_23 ?_
              refine zz_iast dX3_clearRows_24 (ol_row hO hl (by rw [nI_clamp (by omega)]; omega)) (vp_in_nI (by omega) (by omega)) ?_
              refine zz_iinc dX3_clearRows_25 rfl (congrArg (HAdd.hAdd _) (show Int32.ofInt 1 = 1 by decide)) (by decide) ?_
              refine zz_goto (tgt := 10) dX3_clearRows_28 (by decide) ?_
              try dsimp only [zz_s1, zz_s2, zz_kill, zz_ent, zz_fl, List.set_cons_zero, List.set_cons_succ, List.getElem?_cons_zero, List.getElem?_cons_succ, Option.toList_some, Option.toList_none, List.cons_append, List.nil_append, List.append_nil, List.length_cons, List.length_nil, List.replicate_succ, List.replicate_zero, Nat.reduceAdd, Nat.reduceSub]
              rw [nI_1, nI_clamp (show a < 2 ^ 31 by omega), nI_clamp (show i < 2 ^ 31 by omega)]
              refine ih2 (i + 1) _ (by omega) (fun c hc => ?_) (fun b j hb hj => ?_) (fun j hj => ?_)
              · rw [zz_ui_ne _ _ _ (by omega)]
                exact g1 c hc
              · rw [zz_ui_ne _ _ _ (by omega)]
                exact g2 b j hb hj
              · rw [zz_ui_at]
                by_cases e : j = i
                · subst e; simp [upd]
                · rw [zz_upd_ne e]
                  exact g3 j (by omega)
        exact inn 6 0 Ix (by omega) h1 h2 (fun j hj => absurd hj (Nat.not_lt_zero j))
  exact outer 25 0 I (by omega) (fun _ _ => rfl) (fun b i hb => absurd hb (Nat.not_lt_zero b)) none
end PLine

