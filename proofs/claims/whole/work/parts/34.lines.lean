/-! ===== lines: what they hold, on both sides ===== -/
/-- the class's line l -/
def CL (I : zz_I) (l n : Nat) (kd ag : Int32) (E : Nat → Nat → Bool) (sg : Nat → Int32) (rw : Nat → Nat → Int32) : Prop :=
  I (LN l) 0 = kd ∧ I (LN l) 1 = nI n ∧ I (LN l) 2 = ag ∧ (∀ a, a < 24 → ∀ b, b < 32 → bt (I (LN l + 1) a) b = E a b) ∧ (∀ a, a < 24 → I (LN l + 2) a = sg a) ∧ ∀ a, a < 25 → ∀ i, i < 6 → I (LN l + 4 + a) i = rw a i
/-- the reference's line l -/
def ML (I : zz_I) (l n : Nat) (kd ag : Int32) (E : Nat → Nat → Bool) (sg : Nat → Int32) (rw : Nat → Nat → Int32) : Prop :=
  I 261 l = kd ∧ I 260 l = nI n ∧ I 265 l = ag ∧ (∀ a, a < 24 → ∀ b, b < 32 → bt (I 262 (24 * l + a)) b = E a b) ∧ (∀ a, a < 24 → I 263 (24 * l + a) = sg a) ∧ ∀ a, a < 25 → ∀ i, i < 6 → I 264 (150 * l + (6 * a + i)) = rw a i
/-- nothing but the class's line l has changed -/
def FC (l : Nat) (I I' : zz_I) : Prop := ∀ c, (c < LN l ∨ LN l + 29 ≤ c) → I' c = I c
theorem FC.rf {l : Nat} {I : zz_I} : FC l I I := fun _ _ => rfl
theorem FC.tr {l : Nat} {I I1 I2 : zz_I} (h : FC l I I1) (h2 : FC l I1 I2) : FC l I I2 := fun c hc => (h2 c hc).trans (h c hc)
/-- nothing but the reference's line l has changed -/
def FM (l : Nat) (I I' : zz_I) : Prop := (∀ c, (c < 260 ∨ 265 < c) → I' c = I c) ∧ ∀ l', l' < 8 → l' ≠ l → I' 260 l' = I 260 l' ∧ I' 261 l' = I 261 l' ∧ I' 265 l' = I 265 l' ∧ (∀ a, a < 24 → I' 262 (24 * l' + a) = I 262 (24 * l' + a)) ∧ (∀ a, a < 24 → I' 263 (24 * l' + a) = I 263 (24 * l' + a)) ∧ ∀ j, j < 150 → I' 264 (150 * l' + j) = I 264 (150 * l' + j)
theorem FM.rf {l : Nat} {I : zz_I} : FM l I I := ⟨fun _ _ => rfl, fun _ _ _ => ⟨rfl, rfl, rfl, fun _ _ => rfl, fun _ _ => rfl, fun _ _ => rfl⟩⟩
theorem FM.tr {l : Nat} {I I1 I2 : zz_I} (h : FM l I I1) (h2 : FM l I1 I2) : FM l I I2 := by
  refine ⟨fun c hc => (h2.1 c hc).trans (h.1 c hc), fun l' a b => ?_⟩
  obtain ⟨p1, p2, p3, p4, p5, p6⟩ := h.2 l' a b
  obtain ⟨q1, q2, q3, q4, q5, q6⟩ := h2.2 l' a b
  exact ⟨q1.trans p1, q2.trans p2, q3.trans p3, fun a ha => (q4 a ha).trans (p4 a ha), fun a ha => (q5 a ha).trans (p5 a ha), fun j hj => (q6 j hj).trans (p6 j hj)⟩
theorem FM.ML {l l' n : Nat} {kd ag : Int32} {E : Nat → Nat → Bool} {sg : Nat → Int32} {rw : Nat → Nat → Int32} {I I' : zz_I} (h : FM l I I') (hl : l' < 8) (hne : l' ≠ l) (hm : ML I l' n kd ag E sg rw) : ML I' l' n kd ag E sg rw := by
  obtain ⟨p1, p2, p3, p4, p5, p6⟩ := h.2 l' hl hne
  refine ⟨p2.trans hm.1, p1.trans hm.2.1, p3.trans hm.2.2.1, fun a ha b hb => by rw [p4 a ha]; exact hm.2.2.2.1 a ha b hb, fun a ha => by rw [p5 a ha]; exact hm.2.2.2.2.1 a ha, fun a ha i hi => by rw [p6 _ (by omega)]; exact hm.2.2.2.2.2 a ha i hi⟩
theorem FC.CL {l l' n : Nat} {kd ag : Int32} {E : Nat → Nat → Bool} {sg : Nat → Int32} {rw : Nat → Nat → Int32} {I I' : zz_I} (h : FC l I I') (hne : l' ≠ l) (hm : CL I l' n kd ag E sg rw) : CL I' l' n kd ag E sg rw := by
  have e : ∀ q, q < 29 → I' (LN l' + q) = I (LN l' + q) := fun q hq => h _ (by unfold LN; omega)
  have e0 : I' (LN l') = I (LN l') := e 0 (by decide)
  refine ⟨by rw [e0]; exact hm.1, by rw [e0]; exact hm.2.1, by rw [e0]; exact hm.2.2.1, fun a ha b hb => by rw [e 1 (by decide)]; exact hm.2.2.2.1 a ha b hb, fun a ha => by rw [e 2 (by decide)]; exact hm.2.2.2.2.1 a ha, fun a ha i hi => ?_⟩
  rw [Nat.add_assoc, e (4 + a) (by omega), ← Nat.add_assoc]
  exact hm.2.2.2.2.2 a ha i hi
section PLines
variable {M : zz_M} {I : zz_I} {J : zz_J} {Q : zz_Q} {l n : Nat}
theorem sp_X3_renew (d : Nat) (hO : OK M) (hl : l < 8) {kd : Int32} (hQ : ∀ I' : zz_I, FC l I I' → CL I' l n kd (I (LN l) 2 + 1) (fun _ _ => false) (fun _ => 0) (fun _ _ => 0) → Q none M I' J) : zz_D mX3_renew (d + 1) [.ref (LN l), .int kd, .int (nI n)] M I J Q := by
  refine zz_D_of rfl (Nat.le_of_ble_eq_true rfl) ?_
  try dsimp only [zz_s1, zz_s2, zz_kill, zz_ent, zz_fl, List.set_cons_zero, List.set_cons_succ, List.getElem?_cons_zero, List.getElem?_cons_succ, Option.toList_some, Option.toList_none, List.cons_append, List.nil_append, List.append_nil, List.length_cons, List.length_nil, List.replicate_succ, List.replicate_zero, Nat.reduceAdd, Nat.reduceSub]
  refine zz_aload_n rfl dX3_renew_0 ?_
  refine zz_iload_n rfl dX3_renew_1 ?_
  refine zz_puti dX3_renew_2 fX3_9 rfl (fun q h => by cases h; rfl) (ol_obj hO hl) ?_
  refine zz_aload_n rfl dX3_renew_5 ?_
  refine zz_iload_n rfl dX3_renew_6 ?_
  refine zz_puti dX3_renew_7 fX3_15 rfl (fun q h => by cases h; rfl) (ol_obj hO hl) ?_
  refine zz_aload_n rfl dX3_renew_10 ?_
  refine zz_dup rfl dX3_renew_11 ?_
  refine zz_geti dX3_renew_12 fX3_18 rfl (ol_obj hO hl) ?_
  refine zz_iconst (v := 1) (by decide) dX3_renew_15 ?_
  refine zz_iadd dX3_renew_16 ?_
  refine zz_puti dX3_renew_17 fX3_18 rfl (fun q h => by cases h; rfl) (ol_obj hO hl) ?_
  refine zz_iconst (v := 0) (by decide) dX3_renew_20 ?_
  refine zz_istore_n dX3_renew_21 (by decide) ?_
  try dsimp only [zz_s1, zz_s2, zz_kill, zz_ent, zz_fl, List.set_cons_zero, List.set_cons_succ, List.getElem?_cons_zero, List.getElem?_cons_succ, Option.toList_some, Option.toList_none, List.cons_append, List.nil_append, List.append_nil, List.length_cons, List.length_nil, List.replicate_succ, List.replicate_zero, Nat.reduceAdd, Nat.reduceSub]
  have loop : ∀ (r a : Nat) (Ix : zz_I), a + r = 24 → FC l I Ix → Ix (LN l) 0 = kd → Ix (LN l) 1 = nI n → Ix (LN l) 2 = I (LN l) 2 + 1 → (∀ b, b < a → Ix (LN l + 1) b = 0 ∧ Ix (LN l + 2) b = 0) → zz_G mX3_renew (d + 1) 0 22 [some (.ref (LN l)), some (.int kd), some (.int (nI n)), some (.int (nI a))] [] M Ix J Q := by
    intro r
    induction r with
    | zero =>
      intro a Ix ha hf h0 h1 h2 h3
      have e : a = 24 := by omega
      subst e
      refine zz_iload_n rfl dX3_renew_22 ?_
      refine zz_bipush (v := 24) (by decide) dX3_renew_23 ?_
      try dsimp only [zz_s1, zz_s2, zz_kill, zz_ent, zz_fl, List.set_cons_zero, List.set_cons_succ, List.getElem?_cons_zero, List.getElem?_cons_succ, Option.toList_some, Option.toList_none, List.cons_append, List.nil_append, List.append_nil, List.length_cons, List.length_nil, List.replicate_succ, List.replicate_zero, Nat.reduceAdd, Nat.reduceSub]
      refine zz_icmp_ge (tgt := 48) dX3_renew_25 (by decide) (fun h => ?_) (fun h => ?_)
      · refine zz_aload_n rfl dX3_renew_48 ?_
        try dsimp only [zz_s1, zz_s2, zz_kill, zz_ent, zz_fl, List.set_cons_zero, List.set_cons_succ, List.getElem?_cons_zero, List.getElem?_cons_succ, Option.toList_some, Option.toList_none, List.cons_append, List.nil_append, List.append_nil, List.length_cons, List.length_nil, List.replicate_succ, List.replicate_zero, Nat.reduceAdd, Nat.reduceSub]
        refine zz_cV0 dX3_renew_49 lX3_33 rfl (ol_obj hO hl) rfl rfl (Nat.le_of_ble_eq_true rfl) (Nat.le_of_ble_eq_true rfl) ?_
        refine sp_X3_clearRows d hO hl (fun Iy g1 g2 => ?_)
        try dsimp only [zz_s1, zz_s2, zz_kill, zz_ent, zz_fl, List.set_cons_zero, List.set_cons_succ, List.getElem?_cons_zero, List.getElem?_cons_succ, Option.toList_some, Option.toList_none, List.cons_append, List.nil_append, List.append_nil, List.length_cons, List.length_nil, List.replicate_succ, List.replicate_zero, Nat.reduceAdd, Nat.reduceSub]
        refine zz_return dX3_renew_52 rfl ?_
        have eL : ∀ q, q < 4 → Iy (LN l + q) = Ix (LN l + q) := fun q hq => g1 _ (Or.inl (by omega))
        have e0 : Iy (LN l) = Ix (LN l) := eL 0 (by decide)
        refine hQ Iy (fun c hc => (g1 c (by omega)).trans (hf c hc)) ⟨by rw [e0]; exact h0, by rw [e0]; exact h1, by rw [e0]; exact h2, fun a ha b hb => ?_, fun a ha => ?_, fun a ha i hi => g2 a i ha hi⟩
        · rw [eL 1 (by decide), (h3 a ha).1]
          exact b_0 b
        · rw [eL 2 (by decide)]
          exact (h3 a ha).2
      · exact absurd (by decide) h
    | succ r ih =>
      intro a Ix ha hf h0 h1 h2 h3
      refine zz_iload_n rfl dX3_renew_22 ?_
      refine zz_bipush (v := 24) (by decide) dX3_renew_23 ?_
      try dsimp only [zz_s1, zz_s2, zz_kill, zz_ent, zz_fl, List.set_cons_zero, List.set_cons_succ, List.getElem?_cons_zero, List.getElem?_cons_succ, Option.toList_some, Option.toList_none, List.cons_append, List.nil_append, List.append_nil, List.length_cons, List.length_nil, List.replicate_succ, List.replicate_zero, Nat.reduceAdd, Nat.reduceSub]
      refine zz_icmp_ge (tgt := 48) dX3_renew_25 (by decide) (fun h => ?_) (fun h => ?_)
      · exact absurd h (nI_ge (a := a) (b := 24) (by omega) (by decide))
      · skip
        refine zz_aload_n rfl dX3_renew_28 ?_
        refine zz_getr dX3_renew_29 fX3_21 (fun _ _ _ _ => rfl) (ol_obj hO hl) (olr_near hO hl) ?_
        refine zz_iload_n rfl dX3_renew_32 ?_
        refine zz_iconst (v := 0) (by decide) dX3_renew_33 ?_
        refine zz_iast dX3_renew_34 (ol_near hO hl) (vp_in_nI (by omega) (by decide)) ?_
        refine zz_aload_n rfl dX3_renew_35 ?_
        refine zz_getr dX3_renew_36 fX3_25 (fun _ _ _ _ => rfl) (ol_obj hO hl) (olr_signs hO hl) ?_
        refine zz_iload_n rfl dX3_renew_39 ?_
        refine zz_iconst (v := 0) (by decide) dX3_renew_40 ?_
        refine zz_iast dX3_renew_41 (ol_signs hO hl) (vp_in_nI (by omega) (by decide)) ?_
        refine zz_iinc dX3_renew_42 rfl (congrArg (HAdd.hAdd _) (show Int32.ofInt 1 = 1 by decide)) (by decide) ?_
        refine zz_goto (tgt := 22) dX3_renew_45 (by decide) ?_
        try dsimp only [zz_s1, zz_s2, zz_kill, zz_ent, zz_fl, List.set_cons_zero, List.set_cons_succ, List.getElem?_cons_zero, List.getElem?_cons_succ, Option.toList_some, Option.toList_none, List.cons_append, List.nil_append, List.append_nil, List.length_cons, List.length_nil, List.replicate_succ, List.replicate_zero, Nat.reduceAdd, Nat.reduceSub]
        rw [nI_1, nI_clamp (by omega)]
        have ne1 : LN l ≠ LN l + 1 := by omega
        have ne2 : LN l ≠ LN l + 2 := by omega
        have ne3 : LN l + 1 ≠ LN l + 2 := by omega
        refine ih (a + 1) _ (by omega) (fun c hc => ?_) ?_ ?_ ?_ (fun b hb => ?_)
        · rw [zz_ui_ne _ _ _ (by omega), zz_ui_ne _ _ _ (by omega)]; exact hf c hc
        · rw [zz_ui_ne _ _ _ ne2, zz_ui_ne _ _ _ ne1]; exact h0
        · rw [zz_ui_ne _ _ _ ne2, zz_ui_ne _ _ _ ne1]; exact h1
        · rw [zz_ui_ne _ _ _ ne2, zz_ui_ne _ _ _ ne1]; exact h2
        · rw [zz_ui_ne _ _ _ ne3, zz_ui_at, zz_ui_at, zz_ui_ne _ _ _ (Ne.symm ne3)]
          by_cases e : b = a
          · subst e; simp [upd]
          · rw [zz_upd_ne e, zz_upd_ne e]; exact h3 b (by omega)
  refine loop 24 0 _ (by omega) (fun c hc => ?_) ?_ ?_ ?_ (fun b hb => absurd hb (Nat.not_lt_zero b))
  · rw [zz_ui_ne _ _ _ (by omega), zz_ui_ne _ _ _ (by omega), zz_ui_ne _ _ _ (by omega)]
  · simp [zz_ui_at, upd]
  · simp [zz_ui_at, upd]
  · simp [zz_ui_at, upd]
theorem sp_X10_noRows (d : Nat) (hO : OK M) (hl : l < 8) (hQ : ∀ I' : zz_I, (∀ c, c ≠ 264 → I' c = I c) → (∀ j, (j < 150 * l ∨ 150 * l + 150 ≤ j) → I' 264 j = I 264 j) → (∀ j, j < 150 → I' 264 (150 * l + j) = 0) → Q none M I' J) : zz_D mX10_noRows d [.ref 259, .int (nI l)] M I J Q := by
  refine zz_D_of rfl (Nat.le_of_ble_eq_true rfl) ?_
  try dsimp only [zz_s1, zz_s2, zz_kill, zz_ent, zz_fl, List.set_cons_zero, List.set_cons_succ, List.getElem?_cons_zero, List.getElem?_cons_succ, Option.toList_some, Option.toList_none, List.cons_append, List.nil_append, List.append_nil, List.length_cons, List.length_nil, List.replicate_succ, List.replicate_zero, Nat.reduceAdd, Nat.reduceSub]
  refine zz_iconst (v := 0) (by decide) dX10_noRows_0 ?_
  refine zz_istore_n dX10_noRows_1 (by decide) ?_
  try dsimp only [zz_s1, zz_s2, zz_kill, zz_ent, zz_fl, List.set_cons_zero, List.set_cons_succ, List.getElem?_cons_zero, List.getElem?_cons_succ, Option.toList_some, Option.toList_none, List.cons_append, List.nil_append, List.append_nil, List.length_cons, List.length_nil, List.replicate_succ, List.replicate_zero, Nat.reduceAdd, Nat.reduceSub]
  have loop : ∀ (r a : Nat) (Ix : zz_I), a + r = 150 → (∀ c, c ≠ 264 → Ix c = I c) → (∀ j, (j < 150 * l ∨ 150 * l + 150 ≤ j) → Ix 264 j = I 264 j) → (∀ j, j < a → Ix 264 (150 * l + j) = 0) → zz_G mX10_noRows d 0 2 [some (.ref 259), some (.int (nI l)), some (.int (nI a))] [] M Ix J Q := by
    intro r
    induction r with
    | zero =>
      intro a Ix ha h1 h2 h3
      have e : a = 150 := by omega
      subst e
      refine zz_iload_n rfl dX10_noRows_2 ?_
      refine zz_sipush (v := 150) (by decide) dX10_noRows_3 ?_
      try dsimp only [zz_s1, zz_s2, zz_kill, zz_ent, zz_fl, List.set_cons_zero, List.set_cons_succ, List.getElem?_cons_zero, List.getElem?_cons_succ, Option.toList_some, Option.toList_none, List.cons_append, List.nil_append, List.append_nil, List.length_cons, List.length_nil, List.replicate_succ, List.replicate_zero, Nat.reduceAdd, Nat.reduceSub]
      refine zz_icmp_ge (tgt := 28) dX10_noRows_6 (by decide) (fun h => ?_) (fun h => ?_)
      · refine zz_return dX10_noRows_28 rfl ?_
        exact hQ Ix h1 h2 h3
      · exact absurd (by decide) h
    | succ r ih =>
      intro a Ix ha h1 h2 h3
      refine zz_iload_n rfl dX10_noRows_2 ?_
      refine zz_sipush (v := 150) (by decide) dX10_noRows_3 ?_
      try dsimp only [zz_s1, zz_s2, zz_kill, zz_ent, zz_fl, List.set_cons_zero, List.set_cons_succ, List.getElem?_cons_zero, List.getElem?_cons_succ, Option.toList_some, Option.toList_none, List.cons_append, List.nil_append, List.append_nil, List.length_cons, List.length_nil, List.replicate_succ, List.replicate_zero, Nat.reduceAdd, Nat.reduceSub]
      refine zz_icmp_ge (tgt := 28) dX10_noRows_6 (by decide) (fun h => ?_) (fun h => ?_)
      · exact absurd h (nI_ge (a := a) (b := 150) (by omega) (by decide))
      · skip
        have e : (150 : Int32) * nI l + nI a = nI (150 * l + a) := by rw [show (150 : Int32) = nI 150 from rfl, pk_mul, nI_add]
        refine zz_aload_n rfl dX10_noRows_9 ?_
        refine zz_getr dX10_noRows_10 fX10_22 (fun _ _ _ _ => rfl) (os_259 hO) (or_259_4 hO) ?_
        refine zz_sipush (v := 150) (by decide) dX10_noRows_13 ?_
        refine zz_iload_n rfl dX10_noRows_16 ?_
        refine zz_imul dX10_noRows_17 ?_
        refine zz_iload_n rfl dX10_noRows_18 ?_
        refine zz_iadd dX10_noRows_19 ?_
        refine zz_iconst (v := 0) (by decide) dX10_noRows_20 ?_
        refine zz_iast dX10_noRows_21 (os_264 hO) (by rw [e]; exact vp_in_nI (by omega) (by decide)) ?_
        refine zz_iinc dX10_noRows_22 rfl (congrArg (HAdd.hAdd _) (show Int32.ofInt 1 = 1 by decide)) (by decide) ?_
        refine zz_goto (tgt := 2) dX10_noRows_25 (by decide) ?_
        try dsimp only [zz_s1, zz_s2, zz_kill, zz_ent, zz_fl, List.set_cons_zero, List.set_cons_succ, List.getElem?_cons_zero, List.getElem?_cons_succ, Option.toList_some, Option.toList_none, List.cons_append, List.nil_append, List.append_nil, List.length_cons, List.length_nil, List.replicate_succ, List.replicate_zero, Nat.reduceAdd, Nat.reduceSub]
        rw [nI_1, e, nI_clamp (by omega)]
        refine ih (a + 1) _ (by omega) (fun c hc => ?_) (fun j hj => ?_) (fun j hj => ?_)
        · rw [zz_ui_ne _ _ _ hc]; exact h1 c hc
        · rw [zz_ui_at, zz_upd_ne (by omega)]; exact h2 j hj
        · rw [zz_ui_at]
          by_cases e : j = a
          · subst e; simp [upd]
          · rw [zz_upd_ne (by omega)]; exact h3 j (by omega)
  exact loop 150 0 I (by omega) (fun _ _ => rfl) (fun _ _ => rfl) (fun j hj => absurd hj (Nat.not_lt_zero j))
theorem sp_X10_anew (d : Nat) (hO : OK M) (hl : l < 8) {kd : Int32} (hQ : ∀ I' : zz_I, FM l I I' → ML I' l n kd (I 265 l + 1) (fun _ _ => false) (fun _ => 0) (fun _ _ => 0) → Q none M I' J) : zz_D mX10_anew (d + 1) [.ref 259, .int (nI l), .int (nI n), .int kd] M I J Q := by
  have hv : vp_in (nI l) 8 := vp_in_nI hl (by decide)
  have hcl : (nI l).toNatClampNeg = l := nI_clamp (by omega)
  refine zz_D_of rfl (Nat.le_of_ble_eq_true rfl) ?_
  try dsimp only [zz_s1, zz_s2, zz_kill, zz_ent, zz_fl, List.set_cons_zero, List.set_cons_succ, List.getElem?_cons_zero, List.getElem?_cons_succ, Option.toList_some, Option.toList_none, List.cons_append, List.nil_append, List.append_nil, List.length_cons, List.length_nil, List.replicate_succ, List.replicate_zero, Nat.reduceAdd, Nat.reduceSub]
  refine zz_aload_n rfl dX10_anew_0 ?_
  refine zz_getr dX10_anew_1 fX10_9 (fun _ _ _ _ => rfl) (os_259 hO) (or_259_0 hO) ?_
  refine zz_iload_n rfl dX10_anew_4 ?_
  refine zz_iload_n rfl dX10_anew_5 ?_
  refine zz_iast dX10_anew_6 (os_260 hO) hv ?_
  refine zz_aload_n rfl dX10_anew_7 ?_
  refine zz_getr dX10_anew_8 fX10_13 (fun _ _ _ _ => rfl) (os_259 hO) (or_259_1 hO) ?_
  refine zz_iload_n rfl dX10_anew_11 ?_
  refine zz_iload_n rfl dX10_anew_12 ?_
  refine zz_iast dX10_anew_13 (os_261 hO) hv ?_
  refine zz_aload_n rfl dX10_anew_14 ?_
  refine zz_getr dX10_anew_15 fX10_25 (fun _ _ _ _ => rfl) (os_259 hO) (or_259_5 hO) ?_
  refine zz_iload_n rfl dX10_anew_18 ?_
  refine zz_dup2 rfl rfl dX10_anew_19 ?_
  refine zz_iald dX10_anew_20 (os_265 hO) hv ?_
  refine zz_iconst (v := 1) (by decide) dX10_anew_21 ?_
  refine zz_iadd dX10_anew_22 ?_
  refine zz_iast dX10_anew_23 (os_265 hO) hv ?_
  refine zz_iconst (v := 0) (by decide) dX10_anew_24 ?_
  refine zz_istore dX10_anew_25 (by decide) ?_
  try dsimp only [zz_s1, zz_s2, zz_kill, zz_ent, zz_fl, List.set_cons_zero, List.set_cons_succ, List.getElem?_cons_zero, List.getElem?_cons_succ, Option.toList_some, Option.toList_none, List.cons_append, List.nil_append, List.append_nil, List.length_cons, List.length_nil, List.replicate_succ, List.replicate_zero, Nat.reduceAdd, Nat.reduceSub]
  rw [hcl]
  have loop : ∀ (r a : Nat) (Ix : zz_I), a + r = 24 → FM l I Ix → Ix 261 l = kd → Ix 260 l = nI n → Ix 265 l = I 265 l + 1 → (∀ b, b < a → Ix 262 (24 * l + b) = 0 ∧ Ix 263 (24 * l + b) = 0) → zz_G mX10_anew (d + 1) 0 27 [some (.ref 259), some (.int (nI l)), some (.int (nI n)), some (.int kd), some (.int (nI a))] [] M Ix J Q := by
    intro r
    induction r with
    | zero =>
      intro a Ix ha hf h0 h1 h2 h3
      have e : a = 24 := by omega
      subst e
      refine zz_iload rfl dX10_anew_27 ?_
      refine zz_bipush (v := 24) (by decide) dX10_anew_29 ?_
      try dsimp only [zz_s1, zz_s2, zz_kill, zz_ent, zz_fl, List.set_cons_zero, List.set_cons_succ, List.getElem?_cons_zero, List.getElem?_cons_succ, Option.toList_some, Option.toList_none, List.cons_append, List.nil_append, List.append_nil, List.length_cons, List.length_nil, List.replicate_succ, List.replicate_zero, Nat.reduceAdd, Nat.reduceSub]
      refine zz_icmp_ge (tgt := 66) dX10_anew_31 (by decide) (fun h => ?_) (fun h => ?_)
      · refine zz_aload_n rfl dX10_anew_66 ?_
        refine zz_iload_n rfl dX10_anew_67 ?_
        try dsimp only [zz_s1, zz_s2, zz_kill, zz_ent, zz_fl, List.set_cons_zero, List.set_cons_succ, List.getElem?_cons_zero, List.getElem?_cons_succ, Option.toList_some, Option.toList_none, List.cons_append, List.nil_append, List.append_nil, List.length_cons, List.length_nil, List.replicate_succ, List.replicate_zero, Nat.reduceAdd, Nat.reduceSub]
        refine zz_cV1 dX10_anew_68 lX10_89 rfl (os_259 hO) rfl rfl (Nat.le_of_ble_eq_true rfl) (Nat.le_of_ble_eq_true rfl) ?_
        refine sp_X10_noRows d hO hl (fun Iy g1 g2 g3 => ?_)
        try dsimp only [zz_s1, zz_s2, zz_kill, zz_ent, zz_fl, List.set_cons_zero, List.set_cons_succ, List.getElem?_cons_zero, List.getElem?_cons_succ, Option.toList_some, Option.toList_none, List.cons_append, List.nil_append, List.append_nil, List.length_cons, List.length_nil, List.replicate_succ, List.replicate_zero, Nat.reduceAdd, Nat.reduceSub]
        refine zz_return dX10_anew_71 rfl ?_
        refine hQ Iy (FM.tr hf ⟨fun c hc => g1 c (by omega), fun l' a b => ⟨by rw [g1 _ (by decide)], by rw [g1 _ (by decide)], by rw [g1 _ (by decide)], fun a _ => by rw [g1 _ (by decide)], fun a _ => by rw [g1 _ (by decide)], fun j hj => g2 _ (by omega)⟩⟩) ⟨by rw [g1 _ (by decide)]; exact h0, by rw [g1 _ (by decide)]; exact h1, by rw [g1 _ (by decide)]; exact h2, fun a ha b hb => ?_, fun a ha => ?_, fun a ha i hi => g3 _ (by omega)⟩
        · rw [g1 _ (by decide), (h3 a ha).1]
          exact b_0 b
        · rw [g1 _ (by decide)]
          exact (h3 a ha).2
      · exact absurd (by decide) h
    | succ r ih =>
      intro a Ix ha hf h0 h1 h2 h3
      refine zz_iload rfl dX10_anew_27 ?_
      refine zz_bipush (v := 24) (by decide) dX10_anew_29 ?_
      try dsimp only [zz_s1, zz_s2, zz_kill, zz_ent, zz_fl, List.set_cons_zero, List.set_cons_succ, List.getElem?_cons_zero, List.getElem?_cons_succ, Option.toList_some, Option.toList_none, List.cons_append, List.nil_append, List.append_nil, List.length_cons, List.length_nil, List.replicate_succ, List.replicate_zero, Nat.reduceAdd, Nat.reduceSub]
      refine zz_icmp_ge (tgt := 66) dX10_anew_31 (by decide) (fun h => ?_) (fun h => ?_)
      · exact absurd h (nI_ge (a := a) (b := 24) (by omega) (by decide))
      · skip
        have e : (24 : Int32) * nI l + nI a = nI (24 * l + a) := by rw [show (24 : Int32) = nI 24 from rfl, pk_mul, nI_add]
        refine zz_aload_n rfl dX10_anew_34 ?_
        refine zz_getr dX10_anew_35 fX10_16 (fun _ _ _ _ => rfl) (os_259 hO) (or_259_2 hO) ?_
        refine zz_bipush (v := 24) (by decide) dX10_anew_38 ?_
        refine zz_iload_n rfl dX10_anew_40 ?_
        refine zz_imul dX10_anew_41 ?_
        refine zz_iload rfl dX10_anew_42 ?_
        refine zz_iadd dX10_anew_44 ?_
        refine zz_iconst (v := 0) (by decide) dX10_anew_45 ?_
        refine zz_iast dX10_anew_46 (os_262 hO) (by rw [e]; exact vp_in_nI (by omega) (by decide)) ?_
        refine zz_aload_n rfl dX10_anew_47 ?_
        refine zz_getr dX10_anew_48 fX10_19 (fun _ _ _ _ => rfl) (os_259 hO) (or_259_3 hO) ?_
        refine zz_bipush (v := 24) (by decide) dX10_anew_51 ?_
        refine zz_iload_n rfl dX10_anew_53 ?_
        refine zz_imul dX10_anew_54 ?_
        refine zz_iload rfl dX10_anew_55 ?_
        refine zz_iadd dX10_anew_57 ?_
        refine zz_iconst (v := 0) (by decide) dX10_anew_58 ?_
        refine zz_iast dX10_anew_59 (os_263 hO) (by rw [e]; exact vp_in_nI (by omega) (by decide)) ?_
        refine zz_iinc dX10_anew_60 rfl (congrArg (HAdd.hAdd _) (show Int32.ofInt 1 = 1 by decide)) (by decide) ?_
        refine zz_goto (tgt := 27) dX10_anew_63 (by decide) ?_
        try dsimp only [zz_s1, zz_s2, zz_kill, zz_ent, zz_fl, List.set_cons_zero, List.set_cons_succ, List.getElem?_cons_zero, List.getElem?_cons_succ, Option.toList_some, Option.toList_none, List.cons_append, List.nil_append, List.append_nil, List.length_cons, List.length_nil, List.replicate_succ, List.replicate_zero, Nat.reduceAdd, Nat.reduceSub]
        rw [nI_1, e, nI_clamp (by omega)]
        refine ih (a + 1) _ (by omega) (FM.tr hf ⟨fun c hc => ?_, fun l' q1 q2 => ⟨?_, ?_, ?_, fun a _ => ?_, fun a _ => ?_, fun j _ => ?_⟩⟩) ?_ ?_ ?_ (fun b hb => ?_)
        · rw [zz_ui_ne _ _ _ (by omega), zz_ui_ne _ _ _ (by omega)]
        · rw [zz_ui_ne _ _ _ (by decide), zz_ui_ne _ _ _ (by decide)]
        · rw [zz_ui_ne _ _ _ (by decide), zz_ui_ne _ _ _ (by decide)]
        · rw [zz_ui_ne _ _ _ (by decide), zz_ui_ne _ _ _ (by decide)]
        · rw [zz_ui_ne _ _ _ (by decide), zz_ui_at, zz_upd_ne (by omega)]
        · rw [zz_ui_at, zz_ui_ne _ _ _ (by decide), zz_upd_ne (by omega)]
        · rw [zz_ui_ne _ _ _ (by decide), zz_ui_ne _ _ _ (by decide)]
        · rw [zz_ui_ne _ _ _ (by decide), zz_ui_ne _ _ _ (by decide)]; exact h0
        · rw [zz_ui_ne _ _ _ (by decide), zz_ui_ne _ _ _ (by decide)]; exact h1
        · rw [zz_ui_ne _ _ _ (by decide), zz_ui_ne _ _ _ (by decide)]; exact h2
        · rw [zz_ui_ne _ _ _ (show (262 : Nat) ≠ 263 by decide), zz_ui_at, zz_ui_at, zz_ui_ne _ _ _ (show (263 : Nat) ≠ 262 by decide)]
          by_cases e : b = a
          · subst e; simp [upd]
          · rw [zz_upd_ne (by omega), zz_upd_ne (by omega)]; exact h3 b (by omega)
  refine loop 24 0 _ (by omega) ⟨fun c hc => ?_, fun l' q1 q2 => ⟨?_, ?_, ?_, fun a _ => ?_, fun a _ => ?_, fun j _ => ?_⟩⟩ ?_ ?_ ?_ (fun b hb => absurd hb (Nat.not_lt_zero b))
  · rw [zz_ui_ne _ _ _ (by omega), zz_ui_ne _ _ _ (by omega), zz_ui_ne _ _ _ (by omega)]
  · rw [zz_ui_ne _ _ _ (by decide), zz_ui_ne _ _ _ (by decide), zz_ui_at, zz_upd_ne q2]
  · rw [zz_ui_ne _ _ _ (by decide), zz_ui_at, zz_upd_ne q2, zz_ui_ne _ _ _ (by decide)]
  · rw [zz_ui_at, zz_upd_ne q2, zz_ui_ne _ _ _ (by decide), zz_ui_ne _ _ _ (by decide)]
  · rw [zz_ui_ne _ _ _ (by decide), zz_ui_ne _ _ _ (by decide), zz_ui_ne _ _ _ (by decide)]
  · rw [zz_ui_ne _ _ _ (by decide), zz_ui_ne _ _ _ (by decide), zz_ui_ne _ _ _ (by decide)]
  · rw [zz_ui_ne _ _ _ (by decide), zz_ui_ne _ _ _ (by decide), zz_ui_ne _ _ _ (by decide)]
  · rw [zz_ui_ne _ _ _ (by decide), zz_ui_at]; simp [upd]
  · rw [zz_ui_ne _ _ _ (by decide), zz_ui_ne _ _ _ (by decide), zz_ui_at]; simp [upd]
  · rw [zz_ui_at, zz_ui_ne _ _ _ (by decide), zz_ui_ne _ _ _ (by decide)]; simp [upd]
theorem sp_X9_net (d : Nat) (hO : OK M) {l n : Int32} (h1 : ∀ j m, j < 8 → 1 ≤ m → m ≤ 24 → l = nI j → n = nI m → ∀ I' : zz_I, FC j I I' → CL I' j m 0 (I (LN j) 2 + 1) (fun _ _ => false) (fun _ => 0) (fun _ _ => 0) → Q (some (.int n)) M I' J) (h2 : ¬ (vp_in l 8 ∧ 1 ≤ n ∧ n ≤ 24) → Q (some (.int (-2))) M I J) : zz_D mX9_net (d + 2) [.ref 1, .int l, .int n] M I J Q := by
  refine zz_D_of rfl (Nat.le_of_ble_eq_true rfl) ?_
  try dsimp only [zz_s1, zz_s2, zz_kill, zz_ent, zz_fl, List.set_cons_zero, List.set_cons_succ, List.getElem?_cons_zero, List.getElem?_cons_succ, Option.toList_some, Option.toList_none, List.cons_append, List.nil_append, List.append_nil, List.length_cons, List.length_nil, List.replicate_succ, List.replicate_zero, Nat.reduceAdd, Nat.reduceSub]
  refine zz_aload_n rfl dX9_net_0 ?_
  refine zz_iload_n rfl dX9_net_1 ?_
  try dsimp only [zz_s1, zz_s2, zz_kill, zz_ent, zz_fl, List.set_cons_zero, List.set_cons_succ, List.getElem?_cons_zero, List.getElem?_cons_succ, Option.toList_some, Option.toList_none, List.cons_append, List.nil_append, List.append_nil, List.length_cons, List.length_nil, List.replicate_succ, List.replicate_zero, Nat.reduceAdd, Nat.reduceSub]
  refine zz_cV1 dX9_net_2 lX9_100 rfl (os_1 hO) rfl rfl (Nat.le_of_ble_eq_true rfl) (Nat.le_of_ble_eq_true rfl) ?_
  refine sp_lineAt (d + 1) hO (fun j hj e => ?_) (fun hv => ?_)
  try dsimp only [zz_s1, zz_s2, zz_kill, zz_ent, zz_fl, List.set_cons_zero, List.set_cons_succ, List.getElem?_cons_zero, List.getElem?_cons_succ, Option.toList_some, Option.toList_none, List.cons_append, List.nil_append, List.append_nil, List.length_cons, List.length_nil, List.replicate_succ, List.replicate_zero, Nat.reduceAdd, Nat.reduceSub]
  · try dsimp only [zz_s1, zz_s2, zz_kill, zz_ent, zz_fl, List.set_cons_zero, List.set_cons_succ, List.getElem?_cons_zero, List.getElem?_cons_succ, Option.toList_some, Option.toList_none, List.cons_append, List.nil_append, List.append_nil, List.length_cons, List.length_nil, List.replicate_succ, List.replicate_zero, Nat.reduceAdd, Nat.reduceSub]
    refine zz_astore_n dX9_net_5 (by decide) ?_
    refine zz_aload_n rfl dX9_net_6 ?_
    try dsimp only [zz_s1, zz_s2, zz_kill, zz_ent, zz_fl, List.set_cons_zero, List.set_cons_succ, List.getElem?_cons_zero, List.getElem?_cons_succ, Option.toList_some, Option.toList_none, List.cons_append, List.nil_append, List.append_nil, List.length_cons, List.length_nil, List.replicate_succ, List.replicate_zero, Nat.reduceAdd, Nat.reduceSub]
    refine zz_ifnull dX9_net_7 ?_
    try dsimp only [zz_s1, zz_s2, zz_kill, zz_ent, zz_fl, List.set_cons_zero, List.set_cons_succ, List.getElem?_cons_zero, List.getElem?_cons_succ, Option.toList_some, Option.toList_none, List.cons_append, List.nil_append, List.append_nil, List.length_cons, List.length_nil, List.replicate_succ, List.replicate_zero, Nat.reduceAdd, Nat.reduceSub]
    refine zz_iload_n rfl dX9_net_10 ?_
    refine zz_iconst (v := 1) (by decide) dX9_net_11 ?_
    try dsimp only [zz_s1, zz_s2, zz_kill, zz_ent, zz_fl, List.set_cons_zero, List.set_cons_succ, List.getElem?_cons_zero, List.getElem?_cons_succ, Option.toList_some, Option.toList_none, List.cons_append, List.nil_append, List.append_nil, List.length_cons, List.length_nil, List.replicate_succ, List.replicate_zero, Nat.reduceAdd, Nat.reduceSub]
    refine zz_icmp_lt (tgt := 21) dX9_net_12 (by decide) (fun h => ?_) (fun h => ?_)
    · refine zz_bipush (v := (-2)) (by decide) dX9_net_21 ?_
      refine zz_ireturn dX9_net_23 rfl (by first | rfl | decide | assumption) ?_
      exact h2 (fun q => Int32.not_lt.mpr q.2.1 h)
    · skip
      refine zz_iload_n rfl dX9_net_15 ?_
      refine zz_bipush (v := 24) (by decide) dX9_net_16 ?_
      try dsimp only [zz_s1, zz_s2, zz_kill, zz_ent, zz_fl, List.set_cons_zero, List.set_cons_succ, List.getElem?_cons_zero, List.getElem?_cons_succ, Option.toList_some, Option.toList_none, List.cons_append, List.nil_append, List.append_nil, List.length_cons, List.length_nil, List.replicate_succ, List.replicate_zero, Nat.reduceAdd, Nat.reduceSub]
      refine zz_icmp_le (tgt := 24) dX9_net_18 (by decide) (fun h5 => ?_) (fun h5 => ?_)
      · obtain ⟨m, hm, rfl⟩ := nI_of2 (n := 24) (M := 24) rfl (fun q => h (Int32.lt_trans q (by decide))) h5
        have hm1 : 1 ≤ m := by
          refine Nat.le_of_not_lt fun q => h ?_
          rw [show m = 0 by omega]
          decide
        refine zz_aload_n rfl dX9_net_24 ?_
        refine zz_iconst (v := 0) (by decide) dX9_net_25 ?_
        refine zz_iload_n rfl dX9_net_26 ?_
        try dsimp only [zz_s1, zz_s2, zz_kill, zz_ent, zz_fl, List.set_cons_zero, List.set_cons_succ, List.getElem?_cons_zero, List.getElem?_cons_succ, Option.toList_some, Option.toList_none, List.cons_append, List.nil_append, List.append_nil, List.length_cons, List.length_nil, List.replicate_succ, List.replicate_zero, Nat.reduceAdd, Nat.reduceSub]
        refine zz_cV2 dX9_net_27 lX9_104 rfl (ol_obj hO hj) rfl rfl (Nat.le_of_ble_eq_true rfl) (Nat.le_of_ble_eq_true rfl) ?_
        refine sp_X3_renew d hO hj (fun I' g1 g2 => ?_)
        try dsimp only [zz_s1, zz_s2, zz_kill, zz_ent, zz_fl, List.set_cons_zero, List.set_cons_succ, List.getElem?_cons_zero, List.getElem?_cons_succ, Option.toList_some, Option.toList_none, List.cons_append, List.nil_append, List.append_nil, List.length_cons, List.length_nil, List.replicate_succ, List.replicate_zero, Nat.reduceAdd, Nat.reduceSub]
        refine zz_iload_n rfl dX9_net_30 ?_
        refine zz_ireturn dX9_net_31 rfl (by first | rfl | decide | assumption) ?_
        exact h1 j m hj hm1 hm e rfl I' g1 g2
      · skip
        refine zz_bipush (v := (-2)) (by decide) dX9_net_21 ?_
        refine zz_ireturn dX9_net_23 rfl (by first | rfl | decide | assumption) ?_
        exact h2 (fun q => h5 q.2.2)
  · try dsimp only [zz_s1, zz_s2, zz_kill, zz_ent, zz_fl, List.set_cons_zero, List.set_cons_succ, List.getElem?_cons_zero, List.getElem?_cons_succ, Option.toList_some, Option.toList_none, List.cons_append, List.nil_append, List.append_nil, List.length_cons, List.length_nil, List.replicate_succ, List.replicate_zero, Nat.reduceAdd, Nat.reduceSub]
    refine zz_nstore_n dX9_net_5 (by decide) ?_
    refine zz_nload_n rfl dX9_net_6 ?_
    try dsimp only [zz_s1, zz_s2, zz_kill, zz_ent, zz_fl, List.set_cons_zero, List.set_cons_succ, List.getElem?_cons_zero, List.getElem?_cons_succ, Option.toList_some, Option.toList_none, List.cons_append, List.nil_append, List.append_nil, List.length_cons, List.length_nil, List.replicate_succ, List.replicate_zero, Nat.reduceAdd, Nat.reduceSub]
    refine zz_ifnullN (tgt := 21) dX9_net_7 (by decide) ?_
    refine zz_bipush (v := (-2)) (by decide) dX9_net_21 ?_
    refine zz_ireturn dX9_net_23 rfl (by first | rfl | decide | assumption) ?_
    exact h2 (fun q => hv q.1)
theorem sp_X10_net (d : Nat) (hO : OK M) {l n : Int32} (h1 : ∀ j m, j < 8 → 1 ≤ m → m ≤ 24 → l = nI j → n = nI m → ∀ I' : zz_I, FM j I I' → ML I' j m 0 (I 265 j + 1) (fun _ _ => false) (fun _ => 0) (fun _ _ => 0) → Q (some (.int n)) M I' J) (h2 : ¬ (vp_in l 8 ∧ 1 ≤ n ∧ n ≤ 24) → Q (some (.int (-2))) M I J) : zz_D mX10_net (d + 2) [.ref 259, .int l, .int n] M I J Q := by
  refine zz_D_of rfl (Nat.le_of_ble_eq_true rfl) ?_
  try dsimp only [zz_s1, zz_s2, zz_kill, zz_ent, zz_fl, List.set_cons_zero, List.set_cons_succ, List.getElem?_cons_zero, List.getElem?_cons_succ, Option.toList_some, Option.toList_none, List.cons_append, List.nil_append, List.append_nil, List.length_cons, List.length_nil, List.replicate_succ, List.replicate_zero, Nat.reduceAdd, Nat.reduceSub]
  refine zz_iload_n rfl dX10_net_0 ?_
  try dsimp only [zz_s1, zz_s2, zz_kill, zz_ent, zz_fl, List.set_cons_zero, List.set_cons_succ, List.getElem?_cons_zero, List.getElem?_cons_succ, Option.toList_some, Option.toList_none, List.cons_append, List.nil_append, List.append_nil, List.length_cons, List.length_nil, List.replicate_succ, List.replicate_zero, Nat.reduceAdd, Nat.reduceSub]
  refine zz_cS1 dX10_net_1 lX10_85 rfl (Nat.le_of_ble_eq_true rfl) (Nat.le_of_ble_eq_true rfl) ?_
  refine sp_isLine d (fun r hr => ?_)
  try dsimp only [zz_s1, zz_s2, zz_kill, zz_ent, zz_fl, List.set_cons_zero, List.set_cons_succ, List.getElem?_cons_zero, List.getElem?_cons_succ, Option.toList_some, Option.toList_none, List.cons_append, List.nil_append, List.append_nil, List.length_cons, List.length_nil, List.replicate_succ, List.replicate_zero, Nat.reduceAdd, Nat.reduceSub]
  refine zz_if_eq (tgt := 19) dX10_net_4 (by decide) (fun h => ?_) (fun h => ?_)
  · refine zz_bipush (v := (-2)) (by decide) dX10_net_19 ?_
    refine zz_ireturn dX10_net_21 rfl (by first | rfl | decide | assumption) ?_
    exact h2 (fun q => hr.f h q.1)
  · skip
    refine zz_iload_n rfl dX10_net_7 ?_
    refine zz_i2l dX10_net_8 ?_
    refine zz_lconst (v := 1) (by decide) dX10_net_9 ?_
    refine zz_ldc2 tX10_99 dX10_net_10 ?_
    try dsimp only [zz_s1, zz_s2, zz_kill, zz_ent, zz_fl, List.set_cons_zero, List.set_cons_succ, List.getElem?_cons_zero, List.getElem?_cons_succ, Option.toList_some, Option.toList_none, List.cons_append, List.nil_append, List.append_nil, List.length_cons, List.length_nil, List.replicate_succ, List.replicate_zero, Nat.reduceAdd, Nat.reduceSub]
    refine zz_cS3 dX10_net_13 lX10_81 rfl (Nat.le_of_ble_eq_true rfl) (Nat.le_of_ble_eq_true rfl) ?_
    refine sp_in (d + 1) (fun r2 hr2 => ?_)
    try dsimp only [zz_s1, zz_s2, zz_kill, zz_ent, zz_fl, List.set_cons_zero, List.set_cons_succ, List.getElem?_cons_zero, List.getElem?_cons_succ, Option.toList_some, Option.toList_none, List.cons_append, List.nil_append, List.append_nil, List.length_cons, List.length_nil, List.replicate_succ, List.replicate_zero, Nat.reduceAdd, Nat.reduceSub]
    have hr2 : bo r2 (1 ≤ n ∧ n ≤ 24) := hr2.iff (by
      rw [Int64.le_iff_toInt_le, Int64.le_iff_toInt_le, i2l_int, Int32.le_iff_toInt_le, Int32.le_iff_toInt_le]
      exact Iff.rfl)
    refine zz_if_ne (tgt := 22) dX10_net_16 (by decide) (fun h3 => ?_) (fun h3 => ?_)
    · obtain ⟨j, hj, rfl⟩ := vp_in_of (hr.t h) (by decide)
      obtain ⟨q1, q2⟩ := hr2.t h3
      obtain ⟨m, hm, rfl⟩ := nI_of2 (n := 24) (M := 24) rfl (fun q => Int32.not_lt.mpr q1 (Int32.lt_trans q (by decide))) q2
      have hm1 : 1 ≤ m := by
        refine Nat.le_of_not_lt fun q => ?_
        rw [show m = 0 by omega] at q1
        exact absurd q1 (by decide)
      refine zz_aload_n rfl dX10_net_22 ?_
      refine zz_iload_n rfl dX10_net_23 ?_
      refine zz_iload_n rfl dX10_net_24 ?_
      refine zz_iconst (v := 0) (by decide) dX10_net_25 ?_
      try dsimp only [zz_s1, zz_s2, zz_kill, zz_ent, zz_fl, List.set_cons_zero, List.set_cons_succ, List.getElem?_cons_zero, List.getElem?_cons_succ, Option.toList_some, Option.toList_none, List.cons_append, List.nil_append, List.append_nil, List.length_cons, List.length_nil, List.replicate_succ, List.replicate_zero, Nat.reduceAdd, Nat.reduceSub]
      refine zz_cV3 dX10_net_26 lX10_101 rfl (os_259 hO) rfl rfl (Nat.le_of_ble_eq_true rfl) (Nat.le_of_ble_eq_true rfl) ?_
      refine sp_X10_anew d hO hj (fun I' g1 g2 => ?_)
      try dsimp only [zz_s1, zz_s2, zz_kill, zz_ent, zz_fl, List.set_cons_zero, List.set_cons_succ, List.getElem?_cons_zero, List.getElem?_cons_succ, Option.toList_some, Option.toList_none, List.cons_append, List.nil_append, List.append_nil, List.length_cons, List.length_nil, List.replicate_succ, List.replicate_zero, Nat.reduceAdd, Nat.reduceSub]
      refine zz_iload_n rfl dX10_net_29 ?_
      refine zz_ireturn dX10_net_30 rfl (by first | rfl | decide | assumption) ?_
      exact h1 j m hj hm1 hm rfl rfl I' g1 g2
    · skip
      refine zz_bipush (v := (-2)) (by decide) dX10_net_19 ?_
      refine zz_ireturn dX10_net_21 rfl (by first | rfl | decide | assumption) ?_
      exact h2 (fun q => hr2.f h3 q.2)
end PLines

