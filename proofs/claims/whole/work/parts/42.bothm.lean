/-! ===== both of the reference ===== -/
section PBothM
variable {M : zz_M} {I : zz_I} {J : zz_J} {Q : zz_Q} {n : Nat → Nat} {kd ag : Nat → Int32} {E : Nat → Nat → Nat → Bool} {sg : Nat → Nat → Int32} {rw : Nat → Nat → Nat → Int32}
theorem sp_isLike (d : Nat) (hO : OK M) {l a b : Nat} {E : Nat → Nat → Bool} (hl : l < 8) (ha : a < 24) (hb : b < 24) (hE : ∀ a, a < 24 → ∀ b, b < 32 → bt (I 262 (24 * l + a)) b = E a b) (hQ : ∀ r : Int32, bo r (lk E a b) → Q (some (.int r)) M I J) : zz_D mX10_isLike (d + 1) [.ref 259, .int (nI l), .int (nI a), .int (nI b)] M I J Q := by
  refine zz_D_of rfl (Nat.le_of_ble_eq_true rfl) ?_
  try dsimp only [zz_s1, zz_s2, zz_kill, zz_ent, zz_fl, List.set_cons_zero, List.set_cons_succ, List.getElem?_cons_zero, List.getElem?_cons_succ, Option.toList_some, Option.toList_none, List.cons_append, List.nil_append, List.append_nil, List.length_cons, List.length_nil, List.replicate_succ, List.replicate_zero, Nat.reduceAdd, Nat.reduceSub]
  refine zz_iload_n rfl dX10_isLike_0 ?_
  refine zz_iload_n rfl dX10_isLike_1 ?_
  try dsimp only [zz_s1, zz_s2, zz_kill, zz_ent, zz_fl, List.set_cons_zero, List.set_cons_succ, List.getElem?_cons_zero, List.getElem?_cons_succ, Option.toList_some, Option.toList_none, List.cons_append, List.nil_append, List.append_nil, List.length_cons, List.length_nil, List.replicate_succ, List.replicate_zero, Nat.reduceAdd, Nat.reduceSub]
  refine zz_icmp_eq (tgt := 15) dX10_isLike_2 (by decide) (fun h => ?_) (fun h => ?_)
  · refine zz_iconst (v := 1) (by decide) dX10_isLike_15 ?_
    refine zz_goto (tgt := 20) dX10_isLike_16 (by decide) ?_
    refine zz_ireturn dX10_isLike_20 rfl (by first | rfl | decide | assumption) ?_
    exact hQ 1 (bo.one (Or.inl ((nI_eq (by omega) (by omega)).mp h)))
  · skip
    refine zz_aload_n rfl dX10_isLike_5 ?_
    refine zz_iload_n rfl dX10_isLike_6 ?_
    refine zz_iload_n rfl dX10_isLike_7 ?_
    refine zz_iload_n rfl dX10_isLike_8 ?_
    try dsimp only [zz_s1, zz_s2, zz_kill, zz_ent, zz_fl, List.set_cons_zero, List.set_cons_succ, List.getElem?_cons_zero, List.getElem?_cons_succ, Option.toList_some, Option.toList_none, List.cons_append, List.nil_append, List.append_nil, List.length_cons, List.length_nil, List.replicate_succ, List.replicate_zero, Nat.reduceAdd, Nat.reduceSub]
    refine zz_cV3 dX10_isLike_9 lX10_109 rfl (os_259 hO) rfl rfl (Nat.le_of_ble_eq_true rfl) (Nat.le_of_ble_eq_true rfl) ?_
    refine sp_X10_areNear d hO hl ha hb hE (fun r hr => ?_)
    try dsimp only [zz_s1, zz_s2, zz_kill, zz_ent, zz_fl, List.set_cons_zero, List.set_cons_succ, List.getElem?_cons_zero, List.getElem?_cons_succ, Option.toList_some, Option.toList_none, List.cons_append, List.nil_append, List.append_nil, List.length_cons, List.length_nil, List.replicate_succ, List.replicate_zero, Nat.reduceAdd, Nat.reduceSub]
    refine zz_if_eq (tgt := 19) dX10_isLike_12 (by decide) (fun h2 => ?_) (fun h2 => ?_)
    · refine zz_iconst (v := 0) (by decide) dX10_isLike_19 ?_
      refine zz_ireturn dX10_isLike_20 rfl (by first | rfl | decide | assumption) ?_
      exact hQ 0 (bo.zero fun q => q.elim (fun z => h (by rw [z])) (hr.f h2))
    · skip
      refine zz_iconst (v := 1) (by decide) dX10_isLike_15 ?_
      refine zz_goto (tgt := 20) dX10_isLike_16 (by decide) ?_
      refine zz_ireturn dX10_isLike_20 rfl (by first | rfl | decide | assumption) ?_
      exact hQ 1 (bo.one (Or.inr (hr.t h2)))
theorem sp_X10_put (d : Nat) (hO : OK M) {l m : Nat} {E : Nat → Nat → Bool} (hl : l < 8) (hm : m ≤ 24) (hE : ∀ a, a < m → ∀ b, b < 32 → bt (I 268 a) b = E a b) (hE0 : ∀ a b, m ≤ a → E a b = false) (hQ : ∀ I' : zz_I, FM l I I' → ML I' l m 0 (I 265 l + 1) E (fun _ => 0) (fun _ _ => 0) → Q (some (.int (nI m))) M I' J) : zz_D mX10_put (d + 2) [.ref 259, .int (nI l), .int (nI m)] M I J Q := by
  refine zz_D_of rfl (Nat.le_of_ble_eq_true rfl) ?_
  try dsimp only [zz_s1, zz_s2, zz_kill, zz_ent, zz_fl, List.set_cons_zero, List.set_cons_succ, List.getElem?_cons_zero, List.getElem?_cons_succ, Option.toList_some, Option.toList_none, List.cons_append, List.nil_append, List.append_nil, List.length_cons, List.length_nil, List.replicate_succ, List.replicate_zero, Nat.reduceAdd, Nat.reduceSub]
  refine zz_aload_n rfl dX10_put_0 ?_
  refine zz_iload_n rfl dX10_put_1 ?_
  refine zz_iload_n rfl dX10_put_2 ?_
  refine zz_iconst (v := 0) (by decide) dX10_put_3 ?_
  try dsimp only [zz_s1, zz_s2, zz_kill, zz_ent, zz_fl, List.set_cons_zero, List.set_cons_succ, List.getElem?_cons_zero, List.getElem?_cons_succ, Option.toList_some, Option.toList_none, List.cons_append, List.nil_append, List.append_nil, List.length_cons, List.length_nil, List.replicate_succ, List.replicate_zero, Nat.reduceAdd, Nat.reduceSub]
  refine zz_cV3 dX10_put_4 lX10_101 rfl (os_259 hO) rfl rfl (Nat.le_of_ble_eq_true rfl) (Nat.le_of_ble_eq_true rfl) ?_
  refine sp_X10_anew d hO hl (fun I1 g1 g2 => ?_)
  try dsimp only [zz_s1, zz_s2, zz_kill, zz_ent, zz_fl, List.set_cons_zero, List.set_cons_succ, List.getElem?_cons_zero, List.getElem?_cons_succ, Option.toList_some, Option.toList_none, List.cons_append, List.nil_append, List.append_nil, List.length_cons, List.length_nil, List.replicate_succ, List.replicate_zero, Nat.reduceAdd, Nat.reduceSub]
  have i266 : I1 268 = I 268 := g1.1 268 (by decide)
  refine zz_iconst (v := 0) (by decide) dX10_put_7 ?_
  refine zz_istore_n dX10_put_8 (by decide) ?_
  try dsimp only [zz_s1, zz_s2, zz_kill, zz_ent, zz_fl, List.set_cons_zero, List.set_cons_succ, List.getElem?_cons_zero, List.getElem?_cons_succ, Option.toList_some, Option.toList_none, List.cons_append, List.nil_append, List.append_nil, List.length_cons, List.length_nil, List.replicate_succ, List.replicate_zero, Nat.reduceAdd, Nat.reduceSub]
  have loop : ∀ (q a : Nat) (Ix : zz_I), a + q = m → FM l I Ix → ML Ix l m 0 (I 265 l + 1) (fun x y => decide (x < a) && E x y) (fun _ => 0) (fun _ _ => 0) → zz_G mX10_put (d + 2) 0 9 [some (.ref 259), some (.int (nI l)), some (.int (nI m)), some (.int (nI a))] [] M Ix J Q := by
    intro q
    induction q with
    | zero =>
      intro a Ix ha hf hx
      have ea : a = m := by omega
      subst ea
      refine zz_iload_n rfl dX10_put_9 ?_
      refine zz_iload_n rfl dX10_put_10 ?_
      try dsimp only [zz_s1, zz_s2, zz_kill, zz_ent, zz_fl, List.set_cons_zero, List.set_cons_succ, List.getElem?_cons_zero, List.getElem?_cons_succ, Option.toList_some, Option.toList_none, List.cons_append, List.nil_append, List.append_nil, List.length_cons, List.length_nil, List.replicate_succ, List.replicate_zero, Nat.reduceAdd, Nat.reduceSub]
      refine zz_icmp_ge (tgt := 37) dX10_put_11 (by decide) (fun h => ?_) (fun h => ?_)
      · refine zz_iload_n rfl dX10_put_37 ?_
        refine zz_ireturn dX10_put_38 rfl (by first | rfl | decide | assumption) ?_
        refine hQ Ix hf ⟨hx.1, hx.2.1, hx.2.2.1, fun x hx2 y hy2 => ?_, hx.2.2.2.2⟩
        rw [hx.2.2.2.1 x hx2 y hy2]
        by_cases c : x < a
        · simp [c]
        · have z := hE0 x y (by omega)
          simp [z]
      · exact absurd (nI_le (Nat.le_refl a) (by omega)) h
    | succ q ih =>
      intro a Ix ha hf hx
      have ea : (24 : Int32) * nI l + nI a = nI (24 * l + a) := by rw [show (24 : Int32) = nI 24 from rfl, pk_mul, nI_add]
      have x266 : Ix 268 = I 268 := hf.1 268 (by decide)
      refine zz_iload_n rfl dX10_put_9 ?_
      refine zz_iload_n rfl dX10_put_10 ?_
      try dsimp only [zz_s1, zz_s2, zz_kill, zz_ent, zz_fl, List.set_cons_zero, List.set_cons_succ, List.getElem?_cons_zero, List.getElem?_cons_succ, Option.toList_some, Option.toList_none, List.cons_append, List.nil_append, List.append_nil, List.length_cons, List.length_nil, List.replicate_succ, List.replicate_zero, Nat.reduceAdd, Nat.reduceSub]
      refine zz_icmp_ge (tgt := 37) dX10_put_11 (by decide) (fun h => ?_) (fun h => ?_)
      · exact absurd h (nI_ge (by omega) (by omega))
      · skip
        refine zz_aload_n rfl dX10_put_14 ?_
        refine zz_getr dX10_put_15 fX10_16 (fun _ _ _ _ => rfl) (os_259 hO) (or_259_2 hO) ?_
        refine zz_bipush (v := 24) (by decide) dX10_put_18 ?_
        refine zz_iload_n rfl dX10_put_20 ?_
        refine zz_imul dX10_put_21 ?_
        refine zz_iload_n rfl dX10_put_22 ?_
        refine zz_iadd dX10_put_23 ?_
        refine zz_aload_n rfl dX10_put_24 ?_
        refine zz_getr dX10_put_25 fX10_39 (fun _ _ _ _ => rfl) (os_259 hO) (or_259_11 hO) ?_
        refine zz_iload_n rfl dX10_put_28 ?_
        refine zz_iald dX10_put_29 (os_268 hO) (vp_in_nI (by omega) (by decide)) ?_
        refine zz_iast dX10_put_30 (os_262 hO) (by rw [ea]; exact vp_in_nI (by omega) (by decide)) ?_
        refine zz_iinc dX10_put_31 rfl (congrArg (HAdd.hAdd _) (show Int32.ofInt 1 = 1 by decide)) (by decide) ?_
        refine zz_goto (tgt := 9) dX10_put_34 (by decide) ?_
        try dsimp only [zz_s1, zz_s2, zz_kill, zz_ent, zz_fl, List.set_cons_zero, List.set_cons_succ, List.getElem?_cons_zero, List.getElem?_cons_succ, Option.toList_some, Option.toList_none, List.cons_append, List.nil_append, List.append_nil, List.length_cons, List.length_nil, List.replicate_succ, List.replicate_zero, Nat.reduceAdd, Nat.reduceSub]
        rw [nI_1, ea, nI_clamp (show 24 * l + a < 2 ^ 31 by omega), nI_clamp (show a < 2 ^ 31 by omega), x266]
        refine ih (a + 1) _ (by omega) (FM.tr hf (FM_260 (fun c hc => zz_ui_ne _ _ _ hc) (fun x hx2 => by rw [zz_ui_at, pk_un (by omega)]))) ⟨?_, ?_, ?_, fun x hx2 y hy2 => ?_, fun x hx2 => ?_, fun x hx2 i hi => ?_⟩
        · rw [zz_ui_ne _ _ _ (by decide)]; exact hx.1
        · rw [zz_ui_ne _ _ _ (by decide)]; exact hx.2.1
        · rw [zz_ui_ne _ _ _ (by decide)]; exact hx.2.2.1
        · rw [zz_ui_at]
          by_cases e : x = a
          · subst e
            rw [pk_us, hE x (by omega) y hy2]
            simp
          · rw [pk_un (by omega), hx.2.2.2.1 x hx2 y hy2]
            by_cases c : x < a
            · simp [c, show x < a + 1 by omega]
            · simp [c, show ¬ x < a + 1 by omega]
        · rw [zz_ui_ne _ _ _ (by decide)]; exact hx.2.2.2.2.1 x hx2
        · rw [zz_ui_ne _ _ _ (by decide)]; exact hx.2.2.2.2.2 x hx2 i hi
  refine loop m 0 I1 (by omega) g1 ?_
  simpa using g2
theorem sp_X10_both (d : Nat) (hO : OK M) {l m t : Int32} (hn : ∀ j, j < 8 → 1 ≤ n j ∧ n j ≤ 24) (hC : ∀ j, j < 8 → ML I j (n j) (kd j) (ag j) (E j) (sg j) (rw j))
    (h1 : ∀ j1 j2 j3, j1 < 8 → j2 < 8 → j3 < 8 → l = nI j1 → m = nI j2 → t = nI j3 → (24 < n j1 * n j2 → Q (some (.int (-3))) M I J) ∧ (n j1 * n j2 ≤ 24 → ∀ I' : zz_I, (∀ c, c ≠ 268 → (c < 260 ∨ 265 < c) → I' c = I c) → FO j3 I I' → ML I' j3 (n j1 * n j2) 0 (I 265 j3 + 1) (bE (n j1) (n j2) (E j1) (E j2)) (fun _ => 0) (fun _ _ => 0) → Q (some (.int (nI (n j1 * n j2)))) M I' J))
    (h2 : ¬ (vp_in l 8 ∧ vp_in m 8 ∧ vp_in t 8) → Q (some (.int (-2))) M I J) : zz_D mX10_both (d + 3) [.ref 259, .int l, .int m, .int t] M I J Q := by
  refine zz_D_of rfl (Nat.le_of_ble_eq_true rfl) ?_
  try dsimp only [zz_s1, zz_s2, zz_kill, zz_ent, zz_fl, List.set_cons_zero, List.set_cons_succ, List.getElem?_cons_zero, List.getElem?_cons_succ, Option.toList_some, Option.toList_none, List.cons_append, List.nil_append, List.append_nil, List.length_cons, List.length_nil, List.replicate_succ, List.replicate_zero, Nat.reduceAdd, Nat.reduceSub]
  refine zz_iload_n rfl dX10_both_0 ?_
  try dsimp only [zz_s1, zz_s2, zz_kill, zz_ent, zz_fl, List.set_cons_zero, List.set_cons_succ, List.getElem?_cons_zero, List.getElem?_cons_succ, Option.toList_some, Option.toList_none, List.cons_append, List.nil_append, List.append_nil, List.length_cons, List.length_nil, List.replicate_succ, List.replicate_zero, Nat.reduceAdd, Nat.reduceSub]
  refine zz_cS1 dX10_both_1 lX10_85 rfl (Nat.le_of_ble_eq_true rfl) (Nat.le_of_ble_eq_true rfl) ?_
  refine sp_isLine (d + 1) (fun r1 hr1 => ?_)
  try dsimp only [zz_s1, zz_s2, zz_kill, zz_ent, zz_fl, List.set_cons_zero, List.set_cons_succ, List.getElem?_cons_zero, List.getElem?_cons_succ, Option.toList_some, Option.toList_none, List.cons_append, List.nil_append, List.append_nil, List.length_cons, List.length_nil, List.replicate_succ, List.replicate_zero, Nat.reduceAdd, Nat.reduceSub]
  refine zz_if_eq (tgt := 21) dX10_both_4 (by decide) (fun q1 => ?_) (fun q1 => ?_)
  · refine zz_bipush (v := (-2)) (by decide) dX10_both_21 ?_
    refine zz_ireturn dX10_both_23 rfl (by first | rfl | decide | assumption) ?_
    exact h2 (fun q => hr1.f q1 q.1)
  refine zz_iload_n rfl dX10_both_7 ?_
  try dsimp only [zz_s1, zz_s2, zz_kill, zz_ent, zz_fl, List.set_cons_zero, List.set_cons_succ, List.getElem?_cons_zero, List.getElem?_cons_succ, Option.toList_some, Option.toList_none, List.cons_append, List.nil_append, List.append_nil, List.length_cons, List.length_nil, List.replicate_succ, List.replicate_zero, Nat.reduceAdd, Nat.reduceSub]
  refine zz_cS1 dX10_both_8 lX10_85 rfl (Nat.le_of_ble_eq_true rfl) (Nat.le_of_ble_eq_true rfl) ?_
  refine sp_isLine (d + 1) (fun r2 hr2 => ?_)
  try dsimp only [zz_s1, zz_s2, zz_kill, zz_ent, zz_fl, List.set_cons_zero, List.set_cons_succ, List.getElem?_cons_zero, List.getElem?_cons_succ, Option.toList_some, Option.toList_none, List.cons_append, List.nil_append, List.append_nil, List.length_cons, List.length_nil, List.replicate_succ, List.replicate_zero, Nat.reduceAdd, Nat.reduceSub]
  refine zz_if_eq (tgt := 21) dX10_both_11 (by decide) (fun q2 => ?_) (fun q2 => ?_)
  · refine zz_bipush (v := (-2)) (by decide) dX10_both_21 ?_
    refine zz_ireturn dX10_both_23 rfl (by first | rfl | decide | assumption) ?_
    exact h2 (fun q => hr2.f q2 q.2.1)
  refine zz_iload_n rfl dX10_both_14 ?_
  try dsimp only [zz_s1, zz_s2, zz_kill, zz_ent, zz_fl, List.set_cons_zero, List.set_cons_succ, List.getElem?_cons_zero, List.getElem?_cons_succ, Option.toList_some, Option.toList_none, List.cons_append, List.nil_append, List.append_nil, List.length_cons, List.length_nil, List.replicate_succ, List.replicate_zero, Nat.reduceAdd, Nat.reduceSub]
  refine zz_cS1 dX10_both_15 lX10_85 rfl (Nat.le_of_ble_eq_true rfl) (Nat.le_of_ble_eq_true rfl) ?_
  refine sp_isLine (d + 1) (fun r3 hr3 => ?_)
  try dsimp only [zz_s1, zz_s2, zz_kill, zz_ent, zz_fl, List.set_cons_zero, List.set_cons_succ, List.getElem?_cons_zero, List.getElem?_cons_succ, Option.toList_some, Option.toList_none, List.cons_append, List.nil_append, List.append_nil, List.length_cons, List.length_nil, List.replicate_succ, List.replicate_zero, Nat.reduceAdd, Nat.reduceSub]
  refine zz_if_ne (tgt := 24) dX10_both_18 (by decide) (fun q3 => ?_) (fun q3 => ?_)
  rotate_left
  · refine zz_bipush (v := (-2)) (by decide) dX10_both_21 ?_
    refine zz_ireturn dX10_both_23 rfl (by first | rfl | decide | assumption) ?_
    exact h2 (fun q => hr3.f q3 q.2.2)
  obtain ⟨j1, hj1, rfl⟩ := vp_in_of (hr1.t q1) (by decide)
  obtain ⟨j2, hj2, rfl⟩ := vp_in_of (hr2.t q2) (by decide)
  obtain ⟨j3, hj3, rfl⟩ := vp_in_of (hr3.t q3) (by decide)
  obtain ⟨k1, k2⟩ := h1 j1 j2 j3 hj1 hj2 hj3 rfl rfl rfl
  have hc1 := hC j1 hj1
  have hc2 := hC j2 hj2
  have hn1 := hn j1 hj1
  have hn2 := hn j2 hj2
  have hp : n j1 * n j2 ≤ 24 * 24 := Nat.mul_le_mul hn1.2 hn2.2
  refine zz_aload_n rfl dX10_both_24 ?_
  refine zz_getr dX10_both_25 fX10_9 (fun _ _ _ _ => rfl) (os_259 hO) (or_259_0 hO) ?_
  refine zz_iload_n rfl dX10_both_28 ?_
  refine zz_iald dX10_both_29 (os_260 hO) (vp_in_nI hj1 (by decide)) ?_
  refine zz_aload_n rfl dX10_both_30 ?_
  refine zz_getr dX10_both_31 fX10_9 (fun _ _ _ _ => rfl) (os_259 hO) (or_259_0 hO) ?_
  refine zz_iload_n rfl dX10_both_34 ?_
  refine zz_iald dX10_both_35 (os_260 hO) (vp_in_nI hj2 (by decide)) ?_
  refine zz_imul dX10_both_36 ?_
  refine zz_istore dX10_both_37 (by decide) ?_
  refine zz_iload rfl dX10_both_39 ?_
  refine zz_bipush (v := 24) (by decide) dX10_both_41 ?_
  try dsimp only [zz_s1, zz_s2, zz_kill, zz_ent, zz_fl, List.set_cons_zero, List.set_cons_succ, List.getElem?_cons_zero, List.getElem?_cons_succ, Option.toList_some, Option.toList_none, List.cons_append, List.nil_append, List.append_nil, List.length_cons, List.length_nil, List.replicate_succ, List.replicate_zero, Nat.reduceAdd, Nat.reduceSub]
  rw [nI_clamp (show j1 < 2 ^ 31 by omega), nI_clamp (show j2 < 2 ^ 31 by omega), hc1.2.1, hc2.2.1, pk_mul]
  refine zz_icmp_le (tgt := 49) dX10_both_43 (by decide) (fun h => ?_) (fun h => ?_)
  · have hle : n j1 * n j2 ≤ 24 := (nI_leI (b := 24) (by omega) (by decide)).mp h
    have k2 := k2 hle
    generalize hN : n j1 * n j2 = N at *
    refine zz_iconst (v := 0) (by decide) dX10_both_49 ?_
    refine zz_istore dX10_both_50 (by decide) ?_
    try dsimp only [zz_s1, zz_s2, zz_kill, zz_ent, zz_fl, List.set_cons_zero, List.set_cons_succ, List.getElem?_cons_zero, List.getElem?_cons_succ, Option.toList_some, Option.toList_none, List.cons_append, List.nil_append, List.append_nil, List.length_cons, List.length_nil, List.replicate_succ, List.replicate_zero, Nat.reduceAdd, Nat.reduceSub]
    have outer : ∀ (q a : Nat) (Ix : zz_I) (z6 : Option Value), a + q = N → (∀ c, c ≠ 268 → Ix c = I c) → (∀ p, p < a → ∀ y, y < 32 → bt (Ix 268 p) y = bE (n j1) (n j2) (E j1) (E j2) p y) → zz_G mX10_both (d + 3) 0 52 [some (.ref 259), some (.int (nI j1)), some (.int (nI j2)), some (.int (nI j3)), some (.int (nI N)), some (.int (nI a)), z6] [] M Ix J Q := by
      intro q
      induction q with
      | zero =>
        intro a Ix z6 ha hf hx
        have ea : a = N := by omega
        subst ea
        refine zz_iload rfl dX10_both_52 ?_
        refine zz_iload rfl dX10_both_54 ?_
        try dsimp only [zz_s1, zz_s2, zz_kill, zz_ent, zz_fl, List.set_cons_zero, List.set_cons_succ, List.getElem?_cons_zero, List.getElem?_cons_succ, Option.toList_some, Option.toList_none, List.cons_append, List.nil_append, List.append_nil, List.length_cons, List.length_nil, List.replicate_succ, List.replicate_zero, Nat.reduceAdd, Nat.reduceSub]
        refine zz_icmp_ge (tgt := 162) dX10_both_56 (by decide) (fun h6 => ?_) (fun h6 => ?_)
        · refine zz_aload_n rfl dX10_both_162 ?_
          refine zz_iload_n rfl dX10_both_163 ?_
          refine zz_iload rfl dX10_both_164 ?_
          try dsimp only [zz_s1, zz_s2, zz_kill, zz_ent, zz_fl, List.set_cons_zero, List.set_cons_succ, List.getElem?_cons_zero, List.getElem?_cons_succ, Option.toList_some, Option.toList_none, List.cons_append, List.nil_append, List.append_nil, List.length_cons, List.length_nil, List.replicate_succ, List.replicate_zero, Nat.reduceAdd, Nat.reduceSub]
          refine zz_cV2 dX10_both_166 lX10_128 rfl (os_259 hO) rfl rfl (Nat.le_of_ble_eq_true rfl) (Nat.le_of_ble_eq_true rfl) ?_
          refine sp_X10_put d hO hj3 hle (E := bE (n j1) (n j2) (E j1) (E j2)) hx (fun x y hx2 => by unfold bE; rw [hN]; simp; omega) (fun I2 m1 m2 => ?_)
          try dsimp only [zz_s1, zz_s2, zz_kill, zz_ent, zz_fl, List.set_cons_zero, List.set_cons_succ, List.getElem?_cons_zero, List.getElem?_cons_succ, Option.toList_some, Option.toList_none, List.cons_append, List.nil_append, List.append_nil, List.length_cons, List.length_nil, List.replicate_succ, List.replicate_zero, Nat.reduceAdd, Nat.reduceSub]
          refine zz_ireturn dX10_both_169 rfl (by first | rfl | decide | assumption) ?_
          have e263 : Ix 265 j3 = I 265 j3 := by rw [hf 265 (by decide)]
          rw [e263] at m2
          exact k2 I2 (fun c c1 c2 => (m1.1 c c2).trans (hf c c1)) (FO.tr (FO.of (fun c c1 c2 => hf c (by omega))) m1.2) m2
        · exact absurd (nI_le (Nat.le_refl _) (by omega)) h6
      | succ q ih =>
        intro a Ix z6 ha hf hx
        refine zz_iload rfl dX10_both_52 ?_
        refine zz_iload rfl dX10_both_54 ?_
        try dsimp only [zz_s1, zz_s2, zz_kill, zz_ent, zz_fl, List.set_cons_zero, List.set_cons_succ, List.getElem?_cons_zero, List.getElem?_cons_succ, Option.toList_some, Option.toList_none, List.cons_append, List.nil_append, List.append_nil, List.length_cons, List.length_nil, List.replicate_succ, List.replicate_zero, Nat.reduceAdd, Nat.reduceSub]
        refine zz_icmp_ge (tgt := 162) dX10_both_56 (by decide) (fun h6 => ?_) (fun h6 => ?_)
        · exact absurd h6 (nI_ge (by omega) (by omega))
        · skip
          refine zz_aload_n rfl dX10_both_59 ?_
          refine zz_getr dX10_both_60 fX10_39 (fun _ _ _ _ => rfl) (os_259 hO) (or_259_11 hO) ?_
          refine zz_iload rfl dX10_both_63 ?_
          refine zz_iconst (v := 0) (by decide) dX10_both_65 ?_
          refine zz_iast dX10_both_66 (os_268 hO) (vp_in_nI (by omega) (by decide)) ?_
          refine zz_iconst (v := 0) (by decide) dX10_both_67 ?_
          refine zz_istore dX10_both_68 (by decide) ?_
          try dsimp only [zz_s1, zz_s2, zz_kill, zz_ent, zz_fl, List.set_cons_zero, List.set_cons_succ, List.getElem?_cons_zero, List.getElem?_cons_succ, Option.toList_some, Option.toList_none, List.cons_append, List.nil_append, List.append_nil, List.length_cons, List.length_nil, List.replicate_succ, List.replicate_zero, Nat.reduceAdd, Nat.reduceSub]
          rw [nI_clamp (by omega)]
          have inn : ∀ (w b : Nat) (Iy : zz_I), b + w = N → (∀ c, c ≠ 268 → Iy c = I c) → (∀ p, p < a → ∀ y, y < 32 → bt (Iy 268 p) y = bE (n j1) (n j2) (E j1) (E j2) p y) → (∀ y, y < 32 → bt (Iy 268 a) y = (decide (y < b) && bE (n j1) (n j2) (E j1) (E j2) a y)) → zz_G mX10_both (d + 3) 0 70 [some (.ref 259), some (.int (nI j1)), some (.int (nI j2)), some (.int (nI j3)), some (.int (nI N)), some (.int (nI a)), some (.int (nI b))] [] M Iy J Q := by
            intro w
            induction w with
            | zero =>
              intro b Iy hb hfy hy1 hy2
              have eb : b = N := by omega
              subst eb
              refine zz_iload rfl dX10_both_70 ?_
              refine zz_iload rfl dX10_both_72 ?_
              try dsimp only [zz_s1, zz_s2, zz_kill, zz_ent, zz_fl, List.set_cons_zero, List.set_cons_succ, List.getElem?_cons_zero, List.getElem?_cons_succ, Option.toList_some, Option.toList_none, List.cons_append, List.nil_append, List.append_nil, List.length_cons, List.length_nil, List.replicate_succ, List.replicate_zero, Nat.reduceAdd, Nat.reduceSub]
              refine zz_icmp_ge (tgt := 156) dX10_both_74 (by decide) (fun h7 => ?_) (fun h7 => ?_)
              · refine zz_iinc dX10_both_156 rfl (congrArg (HAdd.hAdd _) (show Int32.ofInt 1 = 1 by decide)) (by decide) ?_
                refine zz_goto (tgt := 52) dX10_both_159 (by decide) ?_
                try dsimp only [zz_s1, zz_s2, zz_kill, zz_ent, zz_fl, List.set_cons_zero, List.set_cons_succ, List.getElem?_cons_zero, List.getElem?_cons_succ, Option.toList_some, Option.toList_none, List.cons_append, List.nil_append, List.append_nil, List.length_cons, List.length_nil, List.replicate_succ, List.replicate_zero, Nat.reduceAdd, Nat.reduceSub]
                rw [nI_1]
                refine ih (a + 1) Iy _ (by omega) hfy (fun p hp2 y hy3 => ?_)
                by_cases e : p = a
                · subst e
                  rw [hy2 y hy3]
                  by_cases c : y < b
                  · simp [c]
                  · have : bE (n j1) (n j2) (E j1) (E j2) p y = false := by unfold bE; rw [hN]; simp; omega
                    simp [this]
                · exact hy1 p (by omega) y hy3
              · exact absurd (nI_le (Nat.le_refl _) (by omega)) h7
            | succ w ih2 =>
              intro b Iy hb hfy hy1 hy2
              have gx : ∀ c, c ≠ 268 → Iy c = I c := hfy
              have s2 : Iy 260 j2 = nI (n j2) := by rw [gx 260 (by decide)]; exact hc2.2.1
              have hA := dm_lt (n1 := n j1) (n2 := n j2) (y := a) (by omega)
              have hB := dm_lt (n1 := n j1) (n2 := n j2) (y := b) (by omega)
              have E1 : ∀ x, x < 24 → ∀ y, y < 32 → bt (Iy 262 (24 * j1 + x)) y = E j1 x y := fun x hx2 y hy3 => by rw [gx 262 (by decide)]; exact hc1.2.2.2.1 x hx2 y hy3
              have E2 : ∀ x, x < 24 → ∀ y, y < 32 → bt (Iy 262 (24 * j2 + x)) y = E j2 x y := fun x hx2 y hy3 => by rw [gx 262 (by decide)]; exact hc2.2.2.2.1 x hx2 y hy3
              have skip : bE (n j1) (n j2) (E j1) (E j2) a b = false → zz_G mX10_both (d + 3) 0 150 [some (.ref 259), some (.int (nI j1)), some (.int (nI j2)), some (.int (nI j3)), some (.int (nI N)), some (.int (nI a)), some (.int (nI b))] [] M Iy J Q := by
                intro hno
                refine zz_iinc dX10_both_150 rfl (congrArg (HAdd.hAdd _) (show Int32.ofInt 1 = 1 by decide)) (by decide) ?_
                refine zz_goto (tgt := 70) dX10_both_153 (by decide) ?_
                try dsimp only [zz_s1, zz_s2, zz_kill, zz_ent, zz_fl, List.set_cons_zero, List.set_cons_succ, List.getElem?_cons_zero, List.getElem?_cons_succ, Option.toList_some, Option.toList_none, List.cons_append, List.nil_append, List.append_nil, List.length_cons, List.length_nil, List.replicate_succ, List.replicate_zero, Nat.reduceAdd, Nat.reduceSub]
                rw [nI_1]
                refine ih2 (b + 1) Iy (by omega) hfy hy1 (fun y hy3 => ?_)
                rw [hy2 y hy3]
                by_cases e : y = b
                · subst e; simp [hno]
                · by_cases c : y < b
                  · simp [c, show y < b + 1 by omega]
                  · simp [c, show ¬ y < b + 1 by omega]
              have ne0 : ¬ nI (n j2) = 0 := nI_ne0 (by omega) (by omega)
              refine zz_iload rfl dX10_both_70 ?_
              refine zz_iload rfl dX10_both_72 ?_
              try dsimp only [zz_s1, zz_s2, zz_kill, zz_ent, zz_fl, List.set_cons_zero, List.set_cons_succ, List.getElem?_cons_zero, List.getElem?_cons_succ, Option.toList_some, Option.toList_none, List.cons_append, List.nil_append, List.append_nil, List.length_cons, List.length_nil, List.replicate_succ, List.replicate_zero, Nat.reduceAdd, Nat.reduceSub]
              refine zz_icmp_ge (tgt := 156) dX10_both_74 (by decide) (fun h7 => ?_) (fun h7 => ?_)
              · exact absurd h7 (nI_ge (by omega) (by omega))
              refine zz_iload rfl dX10_both_77 ?_
              refine zz_iload rfl dX10_both_79 ?_
              try dsimp only [zz_s1, zz_s2, zz_kill, zz_ent, zz_fl, List.set_cons_zero, List.set_cons_succ, List.getElem?_cons_zero, List.getElem?_cons_succ, Option.toList_some, Option.toList_none, List.cons_append, List.nil_append, List.append_nil, List.length_cons, List.length_nil, List.replicate_succ, List.replicate_zero, Nat.reduceAdd, Nat.reduceSub]
              refine zz_icmp_eq (tgt := 150) dX10_both_81 (by decide) (fun h8 => ?_) (fun h8 => ?_)
              · have : a = b := (nI_eq (by omega) (by omega)).mp h8
                exact skip (by unfold bE; simp [this])
              have hab : a ≠ b := fun z => h8 (by rw [z])
              refine zz_aload_n rfl dX10_both_84 ?_
              refine zz_iload_n rfl dX10_both_85 ?_
              refine zz_iload rfl dX10_both_86 ?_
              refine zz_aload_n rfl dX10_both_88 ?_
              refine zz_getr dX10_both_89 fX10_9 (fun _ _ _ _ => rfl) (os_259 hO) (or_259_0 hO) ?_
              refine zz_iload_n rfl dX10_both_92 ?_
              refine zz_iald dX10_both_93 (os_260 hO) (vp_in_nI hj2 (by decide)) ?_
              refine zz_idiv (by rw [nI_clamp (show j2 < 2 ^ 31 by omega), s2]; exact ne0) dX10_both_94 ?_
              refine zz_iload rfl dX10_both_95 ?_
              refine zz_aload_n rfl dX10_both_97 ?_
              refine zz_getr dX10_both_98 fX10_9 (fun _ _ _ _ => rfl) (os_259 hO) (or_259_0 hO) ?_
              refine zz_iload_n rfl dX10_both_101 ?_
              refine zz_iald dX10_both_102 (os_260 hO) (vp_in_nI hj2 (by decide)) ?_
              refine zz_idiv (by rw [nI_clamp (show j2 < 2 ^ 31 by omega), s2]; exact ne0) dX10_both_103 ?_
              try dsimp only [zz_s1, zz_s2, zz_kill, zz_ent, zz_fl, List.set_cons_zero, List.set_cons_succ, List.getElem?_cons_zero, List.getElem?_cons_succ, Option.toList_some, Option.toList_none, List.cons_append, List.nil_append, List.append_nil, List.length_cons, List.length_nil, List.replicate_succ, List.replicate_zero, Nat.reduceAdd, Nat.reduceSub]
              rw [nI_clamp (show j2 < 2 ^ 31 by omega), s2, pk_div (by omega) (by omega) (by omega), pk_div (by omega) (by omega) (by omega)]
              refine zz_cV3 dX10_both_104 lX10_125 rfl (os_259 hO) rfl rfl (Nat.le_of_ble_eq_true rfl) (Nat.le_of_ble_eq_true rfl) ?_
              refine sp_isLike (d + 1) hO hj1 (show a / n j2 < 24 by omega) (show b / n j2 < 24 by omega) E1 (fun r4 hr4 => ?_)
              try dsimp only [zz_s1, zz_s2, zz_kill, zz_ent, zz_fl, List.set_cons_zero, List.set_cons_succ, List.getElem?_cons_zero, List.getElem?_cons_succ, Option.toList_some, Option.toList_none, List.cons_append, List.nil_append, List.append_nil, List.length_cons, List.length_nil, List.replicate_succ, List.replicate_zero, Nat.reduceAdd, Nat.reduceSub]
              refine zz_if_eq (tgt := 150) dX10_both_107 (by decide) (fun h9 => ?_) (fun h9 => ?_)
              · refine skip ?_
                cases hx : bE (n j1) (n j2) (E j1) (E j2) a b with
                | false => rfl
                | true => exact absurd (bE_iff.mp hx).2.1 (hr4.f h9)
              refine zz_aload_n rfl dX10_both_110 ?_
              refine zz_iload_n rfl dX10_both_111 ?_
              refine zz_iload rfl dX10_both_112 ?_
              refine zz_aload_n rfl dX10_both_114 ?_
              refine zz_getr dX10_both_115 fX10_9 (fun _ _ _ _ => rfl) (os_259 hO) (or_259_0 hO) ?_
              refine zz_iload_n rfl dX10_both_118 ?_
              refine zz_iald dX10_both_119 (os_260 hO) (vp_in_nI hj2 (by decide)) ?_
              refine zz_irem (by rw [nI_clamp (show j2 < 2 ^ 31 by omega), s2]; exact ne0) dX10_both_120 ?_
              refine zz_iload rfl dX10_both_121 ?_
              refine zz_aload_n rfl dX10_both_123 ?_
              refine zz_getr dX10_both_124 fX10_9 (fun _ _ _ _ => rfl) (os_259 hO) (or_259_0 hO) ?_
              refine zz_iload_n rfl dX10_both_127 ?_
              refine zz_iald dX10_both_128 (os_260 hO) (vp_in_nI hj2 (by decide)) ?_
              refine zz_irem (by rw [nI_clamp (show j2 < 2 ^ 31 by omega), s2]; exact ne0) dX10_both_129 ?_
              try dsimp only [zz_s1, zz_s2, zz_kill, zz_ent, zz_fl, List.set_cons_zero, List.set_cons_succ, List.getElem?_cons_zero, List.getElem?_cons_succ, Option.toList_some, Option.toList_none, List.cons_append, List.nil_append, List.append_nil, List.length_cons, List.length_nil, List.replicate_succ, List.replicate_zero, Nat.reduceAdd, Nat.reduceSub]
              rw [nI_clamp (show j2 < 2 ^ 31 by omega), s2, show jv_rem (nI a) (nI (n j2)) = nI (a % n j2) from pk_rem (by omega) (by omega) (by omega), show jv_rem (nI b) (nI (n j2)) = nI (b % n j2) from pk_rem (by omega) (by omega) (by omega)]
              refine zz_cV3 dX10_both_130 lX10_125 rfl (os_259 hO) rfl rfl (Nat.le_of_ble_eq_true rfl) (Nat.le_of_ble_eq_true rfl) ?_
              refine sp_isLike (d + 1) hO hj2 (show a % n j2 < 24 by omega) (show b % n j2 < 24 by omega) E2 (fun r5 hr5 => ?_)
              try dsimp only [zz_s1, zz_s2, zz_kill, zz_ent, zz_fl, List.set_cons_zero, List.set_cons_succ, List.getElem?_cons_zero, List.getElem?_cons_succ, Option.toList_some, Option.toList_none, List.cons_append, List.nil_append, List.append_nil, List.length_cons, List.length_nil, List.replicate_succ, List.replicate_zero, Nat.reduceAdd, Nat.reduceSub]
              refine zz_if_eq (tgt := 150) dX10_both_133 (by decide) (fun h10 => ?_) (fun h10 => ?_)
              · refine skip ?_
                cases hx : bE (n j1) (n j2) (E j1) (E j2) a b with
                | false => rfl
                | true => exact absurd (bE_iff.mp hx).2.2 (hr5.f h10)
              have hyes : bE (n j1) (n j2) (E j1) (E j2) a b = true := bE_iff.mpr ⟨⟨by omega, by omega, hab⟩, hr4.t h9, hr5.t h10⟩
              refine zz_aload_n rfl dX10_both_136 ?_
              refine zz_getr dX10_both_137 fX10_39 (fun _ _ _ _ => rfl) (os_259 hO) (or_259_11 hO) ?_
              refine zz_iload rfl dX10_both_140 ?_
              refine zz_dup2 rfl rfl dX10_both_142 ?_
              refine zz_iald dX10_both_143 (os_268 hO) (vp_in_nI (show a < 24 by omega) (by decide)) ?_
              refine zz_iconst (v := 1) (by decide) dX10_both_144 ?_
              refine zz_iload rfl dX10_both_145 ?_
              refine zz_ishl dX10_both_147 ?_
              refine zz_ior dX10_both_148 ?_
              refine zz_iast dX10_both_149 (os_268 hO) (vp_in_nI (show a < 24 by omega) (by decide)) ?_
              refine zz_iinc dX10_both_150 rfl (congrArg (HAdd.hAdd _) (show Int32.ofInt 1 = 1 by decide)) (by decide) ?_
              refine zz_goto (tgt := 70) dX10_both_153 (by decide) ?_
              try dsimp only [zz_s1, zz_s2, zz_kill, zz_ent, zz_fl, List.set_cons_zero, List.set_cons_succ, List.getElem?_cons_zero, List.getElem?_cons_succ, Option.toList_some, Option.toList_none, List.cons_append, List.nil_append, List.append_nil, List.length_cons, List.length_nil, List.replicate_succ, List.replicate_zero, Nat.reduceAdd, Nat.reduceSub]
              rw [nI_1, nI_clamp (show a < 2 ^ 31 by omega)]
              refine ih2 (b + 1) _ (by omega) (fun c c1 => by rw [zz_ui_ne _ _ _ c1]; exact hfy c c1) (fun p hp2 y hy3 => by rw [zz_ui_at, pk_un (by omega)]; exact hy1 p hp2 y hy3) (fun y hy3 => ?_)
              rw [zz_ui_at, pk_us, b_or, hy2 y hy3, b_bit (by omega) hy3]
              by_cases e : y = b
              · subst e; simp [hyes]
              · by_cases c : y < b
                · simp [c, e, show y < b + 1 by omega]
                · simp [c, e, show ¬ y < b + 1 by omega]
          refine inn N 0 _ (by omega) (fun c c1 => by rw [zz_ui_ne _ _ _ c1]; exact hf c c1) (fun p hp2 y hy3 => by rw [zz_ui_at, pk_un (by omega)]; exact hx p hp2 y hy3) (fun y hy3 => ?_)
          rw [zz_ui_at, pk_us, b_0]
          simp
    exact outer N 0 I _ (by omega) (fun _ _ => rfl) (fun p hp2 => absurd hp2 (Nat.not_lt_zero p))
  · skip
    refine zz_bipush (v := (-3)) (by decide) dX10_both_46 ?_
    refine zz_ireturn dX10_both_48 rfl (by first | rfl | decide | assumption) ?_
    exact k1 (Nat.lt_of_not_le fun q => h (nI_le (b := 24) q (by decide)))
end PBothM

