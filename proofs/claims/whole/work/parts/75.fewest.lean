/-! ===== the class's fewest heaps, and the least row ===== -/
theorem allI {n : Nat} (hn : n ≤ 24) (x : Nat) : bt (((1 : Int32) <<< (nI n &&& 31)) - 1) x = decide (x < n) := by
  have hp : 2 ^ n ≤ 2 ^ 24 := Nat.pow_le_pow_right (by decide) hn
  have h1 : 1 ≤ 2 ^ n := Nat.two_pow_pos n
  rw [shl1 (by omega), show nI (2 ^ n) - 1 = nI (2 ^ n - 1) from pk_sub (b := 1) h1, bt_nI, Nat.testBit_two_pow_sub_one]
  by_cases hx : x < n
  · simp [hx]; omega
  · simp [hx]
theorem CL_of {l n : Nat} {kd ag : Int32} {E : Nat → Nat → Bool} {sg : Nat → Int32} {rw : Nat → Nat → Int32} {I I' : zz_I} (h : ∀ c, 24 < c → c < 257 → I' c = I c) (hl : l < 8) (hc : CL I l n kd ag E sg rw) : CL I' l n kd ag E sg rw := by
  have hL8 : 24 < LN l ∧ LN l + 28 < 257 := by unfold LN; omega
  refine ⟨?_, ?_, ?_, fun a ha b hb => ?_, fun a ha => ?_, fun a ha i hi => ?_⟩
  · rw [h _ (by omega) (by omega)]; exact hc.1
  · rw [h _ (by omega) (by omega)]; exact hc.2.1
  · rw [h _ (by omega) (by omega)]; exact hc.2.2.1
  · rw [h _ (by omega) (by omega)]; exact hc.2.2.2.1 a ha b hb
  · rw [h _ (by omega) (by omega)]; exact hc.2.2.2.2.1 a ha
  · rw [h _ (by omega) (by omega)]; exact hc.2.2.2.2.2 a ha i hi
section PFew
variable {M : zz_M} {I : zz_I} {J : zz_J} {Q : zz_Q} {n k w : Nat} {E : Nat → Nat → Bool}
theorem sp_fewest (d : Nat) (hO : OK M) {l A : Nat} {kd ag : Int32} {sg : Nat → Int32} {rw : Nat → Nat → Int32} (hl : l < 8) (hn : n ≤ 24) (hc : CL I l n kd ag E sg rw) (hE : wfE n E) (ha1 : 1 ≤ A) (ha : A ≤ n) (hw : w ≤ 24) (hb : hp_b n E w) (hQ : ∀ (I' : zz_I) (kk : Nat), (∀ c, c ≠ 10 → c ≠ 11 → c ≠ 12 → c ≠ 13 → I' c = I c) → hp_N n E A kk → CV I' n kk w E → Q (some (.int (nI kk))) M I' J) : zz_D mX2_fewest (d + 27) [.ref 10, .ref (LN l), .int (nI A), .int (nI w)] M I J Q := by
  have hL8 : 24 < LN l := by unfold LN; omega
  refine zz_D_of rfl (Nat.le_of_ble_eq_true rfl) ?_
  try dsimp only [zz_s1, zz_s2, zz_kill, zz_ent, zz_fl, List.set_cons_zero, List.set_cons_succ, List.getElem?_cons_zero, List.getElem?_cons_succ, Option.toList_some, Option.toList_none, List.cons_append, List.nil_append, List.append_nil, List.length_cons, List.length_nil, List.replicate_succ, List.replicate_zero, Nat.reduceAdd, Nat.reduceSub]
  refine zz_aload_n rfl dX2_fewest_0 ?_
  refine zz_aload_n rfl dX2_fewest_1 ?_
  refine zz_geti dX2_fewest_2 fX2_31 rfl (ol_obj hO hl) ?_
  refine zz_puti dX2_fewest_5 fX2_21 rfl (fun q h => by cases h; rfl) (os_10 hO) ?_
  refine zz_aload_n rfl dX2_fewest_8 ?_
  refine zz_iload_n rfl dX2_fewest_9 ?_
  refine zz_puti dX2_fewest_10 fX2_28 rfl (fun q h => by cases h; rfl) (os_10 hO) ?_
  refine zz_iconst (v := 0) (by decide) dX2_fewest_13 ?_
  refine zz_istore dX2_fewest_14 (by decide) ?_
  try dsimp only [zz_s1, zz_s2, zz_kill, zz_ent, zz_fl, List.set_cons_zero, List.set_cons_succ, List.getElem?_cons_zero, List.getElem?_cons_succ, Option.toList_some, Option.toList_none, List.cons_append, List.nil_append, List.append_nil, List.length_cons, List.length_nil, List.replicate_succ, List.replicate_zero, Nat.reduceAdd, Nat.reduceSub]
  rw [hc.2.1]
  have lw : ∀ (q kk : Nat) (Ix : zz_I) (z4 : Option Value), kk + q = n → A ≤ kk → (∀ c, c ≠ 10 → c ≠ 11 → c ≠ 12 → c ≠ 13 → Ix c = I c) → CV Ix n kk w E → (∀ k', A ≤ k' → k' < kk → ¬ ∃ f, hp_v n E k' f) → zz_G mX2_fewest (d + 27) 0 54 [some (.ref 10), some (.ref (LN l)), some (.int (nI A)), some (.int (nI w)), z4] [] M Ix J Q := by
    intro q
    induction q with
    | zero =>
      intro kk Ix z4 hkk hA f1 f2 f3
      have e : kk = n := by omega
      subst e
      refine zz_aload_n rfl dX2_fewest_54 ?_
      refine zz_geti dX2_fewest_55 fX2_25 rfl (os_10 hO) ?_
      refine zz_aload_n rfl dX2_fewest_58 ?_
      refine zz_geti dX2_fewest_59 fX2_21 rfl (os_10 hO) ?_
      try dsimp only [zz_s1, zz_s2, zz_kill, zz_ent, zz_fl, List.set_cons_zero, List.set_cons_succ, List.getElem?_cons_zero, List.getElem?_cons_succ, Option.toList_some, Option.toList_none, List.cons_append, List.nil_append, List.append_nil, List.length_cons, List.length_nil, List.replicate_succ, List.replicate_zero, Nat.reduceAdd, Nat.reduceSub]
      rw [f2.1, f2.2.1]
      refine zz_icmp_ge (tgt := 95) dX2_fewest_62 (by decide) (fun q1 => ?_) (fun q1 => ?_)
      · refine zz_aload_n rfl dX2_fewest_95 ?_
        refine zz_geti dX2_fewest_96 fX2_25 rfl (os_10 hO) ?_
        refine zz_ireturn dX2_fewest_99 rfl (by first | rfl | decide | assumption) ?_
        rw [f2.2.1]
        exact hQ Ix kk f1 ⟨hA, hp_id, f3⟩ f2
      · exact absurd (nI_le (Nat.le_refl kk) (by omega)) q1
    | succ q ih =>
      intro kk Ix z4 hkk hA f1 f2 f3
      refine zz_aload_n rfl dX2_fewest_54 ?_
      refine zz_geti dX2_fewest_55 fX2_25 rfl (os_10 hO) ?_
      refine zz_aload_n rfl dX2_fewest_58 ?_
      refine zz_geti dX2_fewest_59 fX2_21 rfl (os_10 hO) ?_
      try dsimp only [zz_s1, zz_s2, zz_kill, zz_ent, zz_fl, List.set_cons_zero, List.set_cons_succ, List.getElem?_cons_zero, List.getElem?_cons_succ, Option.toList_some, Option.toList_none, List.cons_append, List.nil_append, List.append_nil, List.length_cons, List.length_nil, List.replicate_succ, List.replicate_zero, Nat.reduceAdd, Nat.reduceSub]
      rw [f2.1, f2.2.1]
      refine zz_icmp_ge (tgt := 95) dX2_fewest_62 (by decide) (fun q1 => ?_) (fun q1 => ?_)
      · exact absurd q1 (nI_ge (by omega) (by omega))
      · skip
        refine zz_aload_n rfl dX2_fewest_65 ?_
        refine zz_iconst (v := 1) (by decide) dX2_fewest_66 ?_
        refine zz_aload_n rfl dX2_fewest_67 ?_
        refine zz_geti dX2_fewest_68 fX2_21 rfl (os_10 hO) ?_
        refine zz_ishl dX2_fewest_71 ?_
        refine zz_iconst (v := 1) (by decide) dX2_fewest_72 ?_
        refine zz_isub dX2_fewest_73 ?_
        refine zz_iconst (v := 0) (by decide) dX2_fewest_74 ?_
        refine zz_iconst (v := 0) (by decide) dX2_fewest_75 ?_
        try dsimp only [zz_s1, zz_s2, zz_kill, zz_ent, zz_fl, List.set_cons_zero, List.set_cons_succ, List.getElem?_cons_zero, List.getElem?_cons_succ, Option.toList_some, Option.toList_none, List.cons_append, List.nil_append, List.append_nil, List.length_cons, List.length_nil, List.replicate_succ, List.replicate_zero, Nat.reduceAdd, Nat.reduceSub]
        rw [f2.1]
        refine zz_cV3 dX2_fewest_76 lX2_41 rfl (os_10 hO) rfl rfl (Nat.le_of_ble_eq_true rfl) (Nat.le_of_ble_eq_true rfl) ?_
        have hc24 : fb_ct (bt (((1 : Int32) <<< (nI n &&& 31)) - 1)) 32 ≤ 24 := ct24 (fun x hx => by rw [allI hn] at hx; simp at hx; omega)
        have h0 : (∃ f, hp_v n E kk f) ↔ hp_x n E kk (fun _ => false) (fun _ => 0) := (hp_x0 (fun _ _ => rfl)).symm
        refine sp_fill hO hn (show kk ≤ 24 by omega) hw hE hb 24 d Ix J _ _ 0 0 (fun _ => false) (fun _ => 0) f2 (fun h hh => by omega) ⟨fun a _ z => (by cases z), fun a b _ _ z => (by cases z)⟩ (Nat.zero_le _) (fun x => ?_) hc24 (by omega) (fun I' r k1 k2 k3 => ?_)
        · rw [allI hn]; simp
        · try dsimp only [zz_s1, zz_s2, zz_kill, zz_ent, zz_fl, List.set_cons_zero, List.set_cons_succ, List.getElem?_cons_zero, List.getElem?_cons_succ, Option.toList_some, Option.toList_none, List.cons_append, List.nil_append, List.append_nil, List.length_cons, List.length_nil, List.replicate_succ, List.replicate_zero, Nat.reduceAdd, Nat.reduceSub]
          refine zz_if_ne (tgt := 95) dX2_fewest_79 (by decide) (fun q2 => ?_) (fun q2 => ?_)
          · refine zz_aload_n rfl dX2_fewest_95 ?_
            refine zz_geti dX2_fewest_96 fX2_25 rfl (os_10 hO) ?_
            refine zz_ireturn dX2_fewest_99 rfl (by first | rfl | decide | assumption) ?_
            have hV := CV_of k1 f2
            rw [hV.2.1]
            exact hQ I' kk (fun c c1 c2 c3 c4 => (k1 c c3 c4).trans (f1 c c1 c2 c3 c4)) ⟨hA, h0.mpr (k2.t q2), f3⟩ hV
          · skip
            have hV := CV_of k1 f2
            refine zz_aload_n rfl dX2_fewest_82 ?_
            refine zz_dup rfl dX2_fewest_83 ?_
            refine zz_geti dX2_fewest_84 fX2_25 rfl (os_10 hO) ?_
            refine zz_iconst (v := 1) (by decide) dX2_fewest_87 ?_
            refine zz_iadd dX2_fewest_88 ?_
            refine zz_puti dX2_fewest_89 fX2_25 rfl (fun q h => by cases h; rfl) (os_10 hO) ?_
            refine zz_goto (tgt := 54) dX2_fewest_92 (by decide) ?_
            try dsimp only [zz_s1, zz_s2, zz_kill, zz_ent, zz_fl, List.set_cons_zero, List.set_cons_succ, List.getElem?_cons_zero, List.getElem?_cons_succ, Option.toList_some, Option.toList_none, List.cons_append, List.nil_append, List.append_nil, List.length_cons, List.length_nil, List.replicate_succ, List.replicate_zero, Nat.reduceAdd, Nat.reduceSub]
            rw [hV.2.1, nI_1]
            refine ih (kk + 1) _ _ (by omega) (by omega) (fun c c1 c2 c3 c4 => ?_) ⟨?_, ?_, ?_, ?_⟩ (fun k' h1 h2 => ?_)
            · rw [zz_ui_ne _ _ _ c1, k1 c c3 c4]; exact f1 c c1 c2 c3 c4
            · rw [zz_ui_at, pk_un (by decide)]; exact hV.1
            · rw [zz_ui_at, pk_us]
            · rw [zz_ui_at, pk_un (by decide)]; exact hV.2.2.1
            · rw [zz_ui_ne _ _ _ (by decide)]; exact hV.2.2.2
            · by_cases e : k' = kk
              · rw [e, h0]; exact k2.f q2
              · exact f3 k' h1 (by omega)
  have l1 : ∀ (q a : Nat) (Ix : zz_I), a + q = n → (∀ c, c ≠ 10 → c ≠ 11 → Ix c = I c) → Ix 10 3 = nI n → Ix 10 5 = nI w → (∀ x, x < a → Ix 11 x = I (LN l + 1) x) → zz_G mX2_fewest (d + 27) 0 16 [some (.ref 10), some (.ref (LN l)), some (.int (nI A)), some (.int (nI w)), some (.int (nI a))] [] M Ix J Q := by
    intro q
    induction q with
    | zero =>
      intro a Ix haq f1 f2 f3 f4
      have e : a = n := by omega
      subst e
      refine zz_iload rfl dX2_fewest_16 ?_
      refine zz_aload_n rfl dX2_fewest_18 ?_
      refine zz_geti dX2_fewest_19 fX2_21 rfl (os_10 hO) ?_
      try dsimp only [zz_s1, zz_s2, zz_kill, zz_ent, zz_fl, List.set_cons_zero, List.set_cons_succ, List.getElem?_cons_zero, List.getElem?_cons_succ, Option.toList_some, Option.toList_none, List.cons_append, List.nil_append, List.append_nil, List.length_cons, List.length_nil, List.replicate_succ, List.replicate_zero, Nat.reduceAdd, Nat.reduceSub]
      rw [f2]
      refine zz_icmp_ge (tgt := 45) dX2_fewest_22 (by decide) (fun q1 => ?_) (fun q1 => ?_)
      · refine zz_aload_n rfl dX2_fewest_45 ?_
        refine zz_iconst (v := 1) (by decide) dX2_fewest_46 ?_
        refine zz_iload_n rfl dX2_fewest_47 ?_
        try dsimp only [zz_s1, zz_s2, zz_kill, zz_ent, zz_fl, List.set_cons_zero, List.set_cons_succ, List.getElem?_cons_zero, List.getElem?_cons_succ, Option.toList_some, Option.toList_none, List.cons_append, List.nil_append, List.append_nil, List.length_cons, List.length_nil, List.replicate_succ, List.replicate_zero, Nat.reduceAdd, Nat.reduceSub]
        refine zz_mmax dX2_fewest_48 lX2_35 (Nat.le_of_ble_eq_true rfl) ?_
        try dsimp only [zz_s1, zz_s2, zz_kill, zz_ent, zz_fl, List.set_cons_zero, List.set_cons_succ, List.getElem?_cons_zero, List.getElem?_cons_succ, Option.toList_some, Option.toList_none, List.cons_append, List.nil_append, List.append_nil, List.length_cons, List.length_nil, List.replicate_succ, List.replicate_zero, Nat.reduceAdd, Nat.reduceSub]
        rw [show (if (1 : Int32) < nI A then nI A else 1) = nI A from by
          have := nI_max 1 A (by decide) (by omega)
          rw [Nat.max_eq_right ha1] at this
          exact this]
        refine zz_puti dX2_fewest_51 fX2_25 rfl (fun q h => by cases h; rfl) (os_10 hO) ?_
        try dsimp only [zz_s1, zz_s2, zz_kill, zz_ent, zz_fl, List.set_cons_zero, List.set_cons_succ, List.getElem?_cons_zero, List.getElem?_cons_succ, Option.toList_some, Option.toList_none, List.cons_append, List.nil_append, List.append_nil, List.length_cons, List.length_nil, List.replicate_succ, List.replicate_zero, Nat.reduceAdd, Nat.reduceSub]
        refine lw (a - A) A _ _ (by omega) (Nat.le_refl _) (fun c c1 c2 _ _ => ?_) ⟨?_, ?_, ?_, fun x hx b hb' => ?_⟩ (fun k' h1 h2 => by omega)
        · rw [zz_ui_ne _ _ _ c1]; exact f1 c c1 c2
        · rw [zz_ui_at, pk_un (by decide)]; exact f2
        · rw [zz_ui_at, pk_us]
        · rw [zz_ui_at, pk_un (by decide)]; exact f3
        · rw [zz_ui_ne _ _ _ (by decide), f4 x hx]
          exact hc.2.2.2.1 x (by omega) b hb'
      · exact absurd (nI_le (Nat.le_refl a) (by omega)) q1
    | succ q ih =>
      intro a Ix haq f1 f2 f3 f4
      refine zz_iload rfl dX2_fewest_16 ?_
      refine zz_aload_n rfl dX2_fewest_18 ?_
      refine zz_geti dX2_fewest_19 fX2_21 rfl (os_10 hO) ?_
      try dsimp only [zz_s1, zz_s2, zz_kill, zz_ent, zz_fl, List.set_cons_zero, List.set_cons_succ, List.getElem?_cons_zero, List.getElem?_cons_succ, Option.toList_some, Option.toList_none, List.cons_append, List.nil_append, List.append_nil, List.length_cons, List.length_nil, List.replicate_succ, List.replicate_zero, Nat.reduceAdd, Nat.reduceSub]
      rw [f2]
      refine zz_icmp_ge (tgt := 45) dX2_fewest_22 (by decide) (fun q1 => ?_) (fun q1 => ?_)
      · exact absurd q1 (nI_ge (by omega) (by omega))
      · skip
        refine zz_aload_n rfl dX2_fewest_25 ?_
        refine zz_getr dX2_fewest_26 fX2_9 (fun _ _ _ _ => rfl) (os_10 hO) (or_10_0 hO) ?_
        refine zz_iload rfl dX2_fewest_29 ?_
        refine zz_aload_n rfl dX2_fewest_31 ?_
        refine zz_getr dX2_fewest_32 fX2_34 (fun _ _ _ _ => rfl) (ol_obj hO hl) (olr_near hO hl) ?_
        refine zz_iload rfl dX2_fewest_35 ?_
        refine zz_iald dX2_fewest_37 (ol_near hO hl) (vp_in_nI (show a < 24 by omega) (by decide)) ?_
        refine zz_iast dX2_fewest_38 (os_11 hO) (vp_in_nI (show a < 24 by omega) (by decide)) ?_
        refine zz_iinc dX2_fewest_39 rfl (congrArg (HAdd.hAdd _) (show Int32.ofInt 1 = 1 by decide)) (by decide) ?_
        refine zz_goto (tgt := 16) dX2_fewest_42 (by decide) ?_
        try dsimp only [zz_s1, zz_s2, zz_kill, zz_ent, zz_fl, List.set_cons_zero, List.set_cons_succ, List.getElem?_cons_zero, List.getElem?_cons_succ, Option.toList_some, Option.toList_none, List.cons_append, List.nil_append, List.append_nil, List.length_cons, List.length_nil, List.replicate_succ, List.replicate_zero, Nat.reduceAdd, Nat.reduceSub]
        rw [nI_1, nI_clamp (show a < 2 ^ 31 by omega)]
        refine ih (a + 1) _ (by omega) (fun c c1 c2 => ?_) ?_ ?_ (fun x hx => ?_)
        · rw [zz_ui_ne _ _ _ c2]; exact f1 c c1 c2
        · rw [zz_ui_ne _ _ _ (by decide)]; exact f2
        · rw [zz_ui_ne _ _ _ (by decide)]; exact f3
        · rw [zz_ui_at]
          by_cases e : x = a
          · rw [e, pk_us, f1 (LN l + 1) (by omega) (by omega)]
          · rw [pk_un e]; exact f4 x (by omega)
  refine l1 n 0 _ (by omega) (fun c c1 c2 => ?_) ?_ ?_ (fun x hx => by omega)
  · rw [zz_ui_ne _ _ _ c1, zz_ui_ne _ _ _ c1]
  · rw [zz_ui_at, pk_un (by decide), zz_ui_at, pk_us]
  · rw [zz_ui_at, pk_us]
theorem sp_leastRow (d : Nat) (hO : OK M) (hn : n ≤ 24) (hk : k ≤ 24) (hw : w ≤ 24) (hE : wfE n E) (hb : hp_b n E w) (hV : CV I n k w E) (hx : ∃ f, hp_v n E k f) (hQ : ∀ (I' : zz_I) (r : Nat → Nat), (∀ c, c ≠ 12 → c ≠ 13 → c ≠ 24 → I' c = I c) → hp_L n E k r → (∀ a, a < n → I' 24 a = nI (r a)) → Q none M I' J) : zz_D mX2_leastRow (d + 27) [.ref 10, .ref 24] M I J Q := by
  have sy : ∀ x y, E x y = true → E y x = true := fun x y z => (hE x y z).2.2.2
  refine zz_D_of rfl (Nat.le_of_ble_eq_true rfl) ?_
  try dsimp only [zz_s1, zz_s2, zz_kill, zz_ent, zz_fl, List.set_cons_zero, List.set_cons_succ, List.getElem?_cons_zero, List.getElem?_cons_succ, Option.toList_some, Option.toList_none, List.cons_append, List.nil_append, List.append_nil, List.length_cons, List.length_nil, List.replicate_succ, List.replicate_zero, Nat.reduceAdd, Nat.reduceSub]
  refine zz_iconst (v := 1) (by decide) dX2_leastRow_0 ?_
  refine zz_aload_n rfl dX2_leastRow_1 ?_
  refine zz_geti dX2_leastRow_2 fX2_21 rfl (os_10 hO) ?_
  refine zz_ishl dX2_leastRow_5 ?_
  refine zz_iconst (v := 1) (by decide) dX2_leastRow_6 ?_
  refine zz_isub dX2_leastRow_7 ?_
  refine zz_istore_n dX2_leastRow_8 (by decide) ?_
  refine zz_iconst (v := 0) (by decide) dX2_leastRow_9 ?_
  refine zz_istore_n dX2_leastRow_10 (by decide) ?_
  refine zz_iconst (v := 0) (by decide) dX2_leastRow_11 ?_
  refine zz_istore dX2_leastRow_12 (by decide) ?_
  try dsimp only [zz_s1, zz_s2, zz_kill, zz_ent, zz_fl, List.set_cons_zero, List.set_cons_succ, List.getElem?_cons_zero, List.getElem?_cons_succ, Option.toList_some, Option.toList_none, List.cons_append, List.nil_append, List.append_nil, List.length_cons, List.length_nil, List.replicate_succ, List.replicate_zero, Nat.reduceAdd, Nat.reduceSub]
  rw [hV.1]
  have outer : ∀ (q a u : Nat) (left : Int32) (Ix : zz_I) (g : Nat → Nat) (z5 z6 : Option Value), a + q = n → (∀ x, bt left x = true ↔ x < n ∧ ltW a x = false) → (∀ c, c ≠ 12 → c ≠ 13 → c ≠ 24 → Ix c = I c) → (∀ b, b < a → Ix 24 b = nI (g b)) → hp_w n E u (ltW a) g → u ≤ a → u ≤ k → hp_x n E k (ltW a) g → (∀ f, hp_v n E k f → ∀ c, c < a → (∀ b, b < c → f b = g b) → g c ≤ f c) → zz_G mX2_leastRow (d + 27) 0 14 [some (.ref 10), some (.ref 24), some (.int left), some (.int (nI u)), some (.int (nI a)), z5, z6] [] M Ix J Q := by
    intro q
    induction q with
    | zero =>
      intro a u left Ix g z5 z6 ha hL f1 f2 hW hua huk hxx hmin
      have e : a = n := by omega
      subst e
      refine zz_iload rfl dX2_leastRow_14 ?_
      refine zz_aload_n rfl dX2_leastRow_16 ?_
      refine zz_geti dX2_leastRow_17 fX2_21 rfl (os_10 hO) ?_
      try dsimp only [zz_s1, zz_s2, zz_kill, zz_ent, zz_fl, List.set_cons_zero, List.set_cons_succ, List.getElem?_cons_zero, List.getElem?_cons_succ, Option.toList_some, Option.toList_none, List.cons_append, List.nil_append, List.append_nil, List.length_cons, List.length_nil, List.replicate_succ, List.replicate_zero, Nat.reduceAdd, Nat.reduceSub]
      rw [f1 10 (by decide) (by decide) (by decide), hV.1]
      refine zz_icmp_ge (tgt := 125) dX2_leastRow_20 (by decide) (fun q1 => ?_) (fun q1 => ?_)
      · refine zz_return dX2_leastRow_125 rfl ?_
        refine hQ Ix g f1 ⟨⟨fun x hx => ?_, fun x y hx hy hne e => ?_⟩, hmin⟩ f2
        · have := hW.1 x hx (ltW_t.mpr hx); omega
        · exact hW.2 x y hx hy (ltW_t.mpr hx) (ltW_t.mpr hy) hne e
      · exact absurd (nI_le (Nat.le_refl a) (by omega)) q1
    | succ q ih =>
      intro a u left Ix g z5 z6 ha hL f1 f2 hW hua huk hxx hmin
      have haf : ltW a a = false := ltW_f.mpr (Nat.lt_irrefl a)
      have han : a < n := by omega
      refine zz_iload rfl dX2_leastRow_14 ?_
      refine zz_aload_n rfl dX2_leastRow_16 ?_
      refine zz_geti dX2_leastRow_17 fX2_21 rfl (os_10 hO) ?_
      try dsimp only [zz_s1, zz_s2, zz_kill, zz_ent, zz_fl, List.set_cons_zero, List.set_cons_succ, List.getElem?_cons_zero, List.getElem?_cons_succ, Option.toList_some, Option.toList_none, List.cons_append, List.nil_append, List.append_nil, List.length_cons, List.length_nil, List.replicate_succ, List.replicate_zero, Nat.reduceAdd, Nat.reduceSub]
      rw [f1 10 (by decide) (by decide) (by decide), hV.1]
      refine zz_icmp_ge (tgt := 125) dX2_leastRow_20 (by decide) (fun q1 => ?_) (fun q1 => ?_)
      · exact absurd q1 (nI_ge (by omega) (by omega))
      refine zz_iload_n rfl dX2_leastRow_23 ?_
      refine zz_iconst (v := 1) (by decide) dX2_leastRow_24 ?_
      refine zz_iload rfl dX2_leastRow_25 ?_
      refine zz_ishl dX2_leastRow_27 ?_
      refine zz_iconst (v := (-1)) (by decide) dX2_leastRow_28 ?_
      refine zz_ixor dX2_leastRow_29 ?_
      refine zz_iand dX2_leastRow_30 ?_
      refine zz_istore_n dX2_leastRow_31 (by decide) ?_
      refine zz_iload_n rfl dX2_leastRow_32 ?_
      refine zz_istore dX2_leastRow_33 (by decide) ?_
      refine zz_iconst (v := 0) (by decide) dX2_leastRow_35 ?_
      refine zz_istore dX2_leastRow_36 (by decide) ?_
      try dsimp only [zz_s1, zz_s2, zz_kill, zz_ent, zz_fl, List.set_cons_zero, List.set_cons_succ, List.getElem?_cons_zero, List.getElem?_cons_succ, Option.toList_some, Option.toList_none, List.cons_append, List.nil_append, List.append_nil, List.length_cons, List.length_nil, List.replicate_succ, List.replicate_zero, Nat.reduceAdd, Nat.reduceSub]
      generalize hrest : left &&& (((1 : Int32) <<< (nI a &&& 31)) ^^^ (-1)) = rest
      have hrL : ∀ x, bt rest x = true ↔ x < n ∧ ltW (a + 1) x = false := fun x => by
        rw [← hrest, bt_off left (by omega) x, rm_t, hL, ltW_f, ltW_f]
        omega
      have hrc : fb_ct (bt rest) 32 ≤ 24 := ct24 (fun x hx => by have := ((hrL x).mp hx).1; omega)
      have fin : ∀ (ch : Nat) (Iy : zz_I) (z6 : Option Value), (∀ c, c ≠ 12 → c ≠ 13 → c ≠ 24 → Iy c = I c) → Iy 24 = Ix 24 → ch ≤ u → ch < k → hp_x n E k (ltW (a + 1)) (hp_u g a ch) → (∀ h', h' < ch → ¬ hp_x n E k (ltW (a + 1)) (hp_u g a h')) → zz_G mX2_leastRow (d + 27) 0 104 [some (.ref 10), some (.ref 24), some (.int rest), some (.int (nI u)), some (.int (nI a)), some (.int (nI ch)), z6] [] M Iy J Q := by
        intro ch Iy z6 k1 k2 k3 k3b k4 k5
        refine zz_aload_n rfl dX2_leastRow_104 ?_
        refine zz_iload rfl dX2_leastRow_105 ?_
        refine zz_iload rfl dX2_leastRow_107 ?_
        refine zz_iast dX2_leastRow_109 (os_24 hO) (vp_in_nI (show a < 24 by omega) (by decide)) ?_
        refine zz_iload_n rfl dX2_leastRow_110 ?_
        refine zz_iload rfl dX2_leastRow_111 ?_
        refine zz_iconst (v := 1) (by decide) dX2_leastRow_113 ?_
        refine zz_iadd dX2_leastRow_114 ?_
        try dsimp only [zz_s1, zz_s2, zz_kill, zz_ent, zz_fl, List.set_cons_zero, List.set_cons_succ, List.getElem?_cons_zero, List.getElem?_cons_succ, Option.toList_some, Option.toList_none, List.cons_append, List.nil_append, List.append_nil, List.length_cons, List.length_nil, List.replicate_succ, List.replicate_zero, Nat.reduceAdd, Nat.reduceSub]
        rw [nI_1, nI_clamp (show a < 2 ^ 31 by omega)]
        refine zz_mmax dX2_leastRow_115 lX2_35 (Nat.le_of_ble_eq_true rfl) ?_
        try dsimp only [zz_s1, zz_s2, zz_kill, zz_ent, zz_fl, List.set_cons_zero, List.set_cons_succ, List.getElem?_cons_zero, List.getElem?_cons_succ, Option.toList_some, Option.toList_none, List.cons_append, List.nil_append, List.append_nil, List.length_cons, List.length_nil, List.replicate_succ, List.replicate_zero, Nat.reduceAdd, Nat.reduceSub]
        rw [nI_max _ _ (by omega) (by omega)]
        refine zz_istore_n dX2_leastRow_118 (by decide) ?_
        refine zz_iinc dX2_leastRow_119 rfl (congrArg (HAdd.hAdd _) (show Int32.ofInt 1 = 1 by decide)) (by decide) ?_
        refine zz_goto (tgt := 14) dX2_leastRow_122 (by decide) ?_
        try dsimp only [zz_s1, zz_s2, zz_kill, zz_ent, zz_fl, List.set_cons_zero, List.set_cons_succ, List.getElem?_cons_zero, List.getElem?_cons_succ, Option.toList_some, Option.toList_none, List.cons_append, List.nil_append, List.append_nil, List.length_cons, List.length_nil, List.replicate_succ, List.replicate_zero, Nat.reduceAdd, Nat.reduceSub]
        rw [nI_1]
        have hfit : hp_f n E (ltW a) g ch a := Classical.byContradiction fun z => hp_nf han haf z (by rw [hp_p_lt]; exact k4)
        have hW2 := hp_w_add (h := ch) (u' := max u (ch + 1)) sy hW (by omega) (by omega) hfit
        rw [hp_p_lt] at hW2
        refine ih (a + 1) (max u (ch + 1)) rest _ (hp_u g a ch) _ _ (by omega) hrL (fun c c1 c2 c3 => ?_) (fun b hb' => ?_) hW2 (by omega) (by omega) k4 (fun f hf c hc hag => ?_)
        · rw [zz_ui_ne _ _ _ c3]; exact k1 c c1 c2 c3
        · rw [zz_ui_at]
          by_cases e : b = a
          · rw [e, pk_us, hp_u_s]
          · rw [pk_un e, hp_u_n _ e, k2]; exact f2 b (by omega)
        · have hag2 : ∀ b, b < c → f b = g b := fun b hb' => by rw [hag b hb', hp_u_n _ (by omega)]
          by_cases e : c = a
          · rw [e, hp_u_s]
            refine Nat.le_of_not_lt fun z => k5 (f a) z ?_
            rw [← hp_p_lt]
            exact hp_up hf (fun x _ px => hag2 x (by rw [e]; exact ltW_t.mp px))
          · rw [hp_u_n _ e]
            exact hmin f hf c (by omega) hag2
      have inner : ∀ (q h : Nat) (Iy : zz_I), h + q = u → (∀ c, c ≠ 12 → c ≠ 13 → c ≠ 24 → Iy c = I c) → Iy 24 = Ix 24 → (∀ h', h' < h → ¬ hp_x n E k (ltW (a + 1)) (hp_u g a h')) → zz_G mX2_leastRow (d + 27) 0 38 [some (.ref 10), some (.ref 24), some (.int rest), some (.int (nI u)), some (.int (nI a)), some (.int (nI u)), some (.int (nI h))] [] M Iy J Q := by
        intro q
        induction q with
        | zero =>
          intro h Iy hh k1 k2 k3
          have e : h = u := by omega
          subst e
          refine zz_iload rfl dX2_leastRow_38 ?_
          refine zz_iload_n rfl dX2_leastRow_40 ?_
          try dsimp only [zz_s1, zz_s2, zz_kill, zz_ent, zz_fl, List.set_cons_zero, List.set_cons_succ, List.getElem?_cons_zero, List.getElem?_cons_succ, Option.toList_some, Option.toList_none, List.cons_append, List.nil_append, List.append_nil, List.length_cons, List.length_nil, List.replicate_succ, List.replicate_zero, Nat.reduceAdd, Nat.reduceSub]
          refine zz_icmp_ge (tgt := 104) dX2_leastRow_41 (by decide) (fun q2 => ?_) (fun q2 => ?_)
          · rcases hp_br han haf hW.1 hxx with ⟨h', y1, y2, y3, y4⟩ | y
            · exact absurd (by rw [← hp_p_lt]; exact y4) (k3 h' y1)
            · exact fin h Iy _ k1 k2 (Nat.le_refl h) y.1 (by rw [← hp_p_lt]; exact y.2) k3
          · exact absurd (nI_le (Nat.le_refl h) (by omega)) q2
        | succ q ih2 =>
          intro h Iy hh k1 k2 k3
          refine zz_iload rfl dX2_leastRow_38 ?_
          refine zz_iload_n rfl dX2_leastRow_40 ?_
          try dsimp only [zz_s1, zz_s2, zz_kill, zz_ent, zz_fl, List.set_cons_zero, List.set_cons_succ, List.getElem?_cons_zero, List.getElem?_cons_succ, Option.toList_some, Option.toList_none, List.cons_append, List.nil_append, List.append_nil, List.length_cons, List.length_nil, List.replicate_succ, List.replicate_zero, Nat.reduceAdd, Nat.reduceSub]
          refine zz_icmp_ge (tgt := 104) dX2_leastRow_41 (by decide) (fun q2 => ?_) (fun q2 => ?_)
          · exact absurd q2 (nI_ge (by omega) (by omega))
          refine zz_iload rfl dX2_leastRow_44 ?_
          refine zz_iload_n rfl dX2_leastRow_46 ?_
          try dsimp only [zz_s1, zz_s2, zz_kill, zz_ent, zz_fl, List.set_cons_zero, List.set_cons_succ, List.getElem?_cons_zero, List.getElem?_cons_succ, Option.toList_some, Option.toList_none, List.cons_append, List.nil_append, List.append_nil, List.length_cons, List.length_nil, List.replicate_succ, List.replicate_zero, Nat.reduceAdd, Nat.reduceSub]
          refine zz_icmp_ne (tgt := 104) dX2_leastRow_47 (by decide) (fun q3 => ?_) (fun q3 => ?_)
          · exact absurd rfl q3
          have hVy : CV Iy n k w E := by
            unfold CV
            rw [k1 10 (by decide) (by decide) (by decide), k1 11 (by decide) (by decide) (by decide)]
            exact hV
          refine zz_aload_n rfl dX2_leastRow_50 ?_
          refine zz_aload_n rfl dX2_leastRow_51 ?_
          refine zz_iload rfl dX2_leastRow_52 ?_
          try dsimp only [zz_s1, zz_s2, zz_kill, zz_ent, zz_fl, List.set_cons_zero, List.set_cons_succ, List.getElem?_cons_zero, List.getElem?_cons_succ, Option.toList_some, Option.toList_none, List.cons_append, List.nil_append, List.append_nil, List.length_cons, List.length_nil, List.replicate_succ, List.replicate_zero, Nat.reduceAdd, Nat.reduceSub]
          refine zz_cV2 dX2_leastRow_54 lX2_45 rfl (os_10 hO) rfl rfl (Nat.le_of_ble_eq_true rfl) (Nat.le_of_ble_eq_true rfl) ?_
          refine sp_layRow (d + 25) hO hn (show a ≤ n by omega) hVy (fun b hb' => ⟨by rw [k2]; exact f2 b hb', by have := hW.1 b (by omega) (ltW_t.mpr hb'); omega⟩) (fun Iz j1 j2 => ?_)
          try dsimp only [zz_s1, zz_s2, zz_kill, zz_ent, zz_fl, List.set_cons_zero, List.set_cons_succ, List.getElem?_cons_zero, List.getElem?_cons_succ, Option.toList_some, Option.toList_none, List.cons_append, List.nil_append, List.append_nil, List.length_cons, List.length_nil, List.replicate_succ, List.replicate_zero, Nat.reduceAdd, Nat.reduceSub]
          have k1z : ∀ c, c ≠ 12 → c ≠ 13 → c ≠ 24 → Iz c = I c := fun c c1 c2 c3 => (j1 c c1 c2).trans (k1 c c1 c2 c3)
          have k2z : Iz 24 = Ix 24 := (j1 24 (by decide) (by decide)).trans k2
          have hVz := CV_of j1 hVy
          have hFz : CF Iz n u E (ltW a) g := fun h hh => j2 h (by omega)
          have eb := ubit (Iz 12 h) (show a < 32 by omega)
          refine zz_aload_n rfl dX2_leastRow_57 ?_
          refine zz_getr dX2_leastRow_58 fX2_15 (fun _ _ _ _ => rfl) (os_10 hO) (or_10_1 hO) ?_
          refine zz_iload rfl dX2_leastRow_61 ?_
          refine zz_iald dX2_leastRow_63 (os_12 hO) (vp_in_nI (show h < 24 by omega) (by decide)) ?_
          refine zz_iload rfl dX2_leastRow_64 ?_
          refine zz_iushr dX2_leastRow_66 ?_
          refine zz_iconst (v := 1) (by decide) dX2_leastRow_67 ?_
          refine zz_iand dX2_leastRow_68 ?_
          try dsimp only [zz_s1, zz_s2, zz_kill, zz_ent, zz_fl, List.set_cons_zero, List.set_cons_succ, List.getElem?_cons_zero, List.getElem?_cons_succ, Option.toList_some, Option.toList_none, List.cons_append, List.nil_append, List.append_nil, List.length_cons, List.length_nil, List.replicate_succ, List.replicate_zero, Nat.reduceAdd, Nat.reduceSub]
          rw [nI_clamp (show h < 2 ^ 31 by omega)]
          refine zz_if_eq (tgt := 98) dX2_leastRow_69 (by decide) (fun q4 => ?_) (fun q4 => ?_)
          · have hnf : ¬ hp_f n E (ltW a) g h a := fun z => by have := ((hFz h (by omega)).1 a han).mpr z; rw [eb.mp q4] at this; cases this
            refine zz_iinc dX2_leastRow_98 rfl (congrArg (HAdd.hAdd _) (show Int32.ofInt 1 = 1 by decide)) (by decide) ?_
            refine zz_goto (tgt := 38) dX2_leastRow_101 (by decide) ?_
            try dsimp only [zz_s1, zz_s2, zz_kill, zz_ent, zz_fl, List.set_cons_zero, List.set_cons_succ, List.getElem?_cons_zero, List.getElem?_cons_succ, Option.toList_some, Option.toList_none, List.cons_append, List.nil_append, List.append_nil, List.length_cons, List.length_nil, List.replicate_succ, List.replicate_zero, Nat.reduceAdd, Nat.reduceSub]
            rw [nI_1]
            refine ih2 (h + 1) Iz (by omega) k1z k2z (fun h' hh' => ?_)
            by_cases e : h' = h
            · rw [e, ← hp_p_lt]; exact hp_nf han haf hnf
            · exact k3 h' (by omega)
          have hff : hp_f n E (ltW a) g h a := ((hFz h (by omega)).1 a han).mp (by
            cases z : bt (Iz 12 h) a with
            | true => rfl
            | false => exact absurd (eb.mpr z) q4)
          refine zz_aload_n rfl dX2_leastRow_72 ?_
          refine zz_iload rfl dX2_leastRow_73 ?_
          refine zz_iload rfl dX2_leastRow_75 ?_
          try dsimp only [zz_s1, zz_s2, zz_kill, zz_ent, zz_fl, List.set_cons_zero, List.set_cons_succ, List.getElem?_cons_zero, List.getElem?_cons_succ, Option.toList_some, Option.toList_none, List.cons_append, List.nil_append, List.append_nil, List.length_cons, List.length_nil, List.replicate_succ, List.replicate_zero, Nat.reduceAdd, Nat.reduceSub]
          refine zz_cV2 dX2_leastRow_77 lX2_49 rfl (os_10 hO) rfl rfl (Nat.le_of_ble_eq_true rfl) (Nat.le_of_ble_eq_true rfl) ?_
          refine sp_X2_add (d + 26) hO (show a < 24 by omega) (show h < 24 by omega) (fun Iv m1 m2 m3 => ?_)
          try dsimp only [zz_s1, zz_s2, zz_kill, zz_ent, zz_fl, List.set_cons_zero, List.set_cons_succ, List.getElem?_cons_zero, List.getElem?_cons_succ, Option.toList_some, Option.toList_none, List.cons_append, List.nil_append, List.append_nil, List.length_cons, List.length_nil, List.replicate_succ, List.replicate_zero, Nat.reduceAdd, Nat.reduceSub]
          refine zz_aload_n rfl dX2_leastRow_80 ?_
          refine zz_iload_n rfl dX2_leastRow_81 ?_
          refine zz_iload_n rfl dX2_leastRow_82 ?_
          refine zz_iconst (v := 0) (by decide) dX2_leastRow_83 ?_
          try dsimp only [zz_s1, zz_s2, zz_kill, zz_ent, zz_fl, List.set_cons_zero, List.set_cons_succ, List.getElem?_cons_zero, List.getElem?_cons_succ, Option.toList_some, Option.toList_none, List.cons_append, List.nil_append, List.append_nil, List.length_cons, List.length_nil, List.replicate_succ, List.replicate_zero, Nat.reduceAdd, Nat.reduceSub]
          have hF2 := CF_add hn han haf hVz hFz m2 m3
          have hW2 := hp_w_add sy hW (show h < u by omega) (Nat.le_refl u) hff
          rw [hp_p_lt] at hF2 hW2
          refine zz_cV3 dX2_leastRow_84 lX2_41 rfl (os_10 hO) rfl rfl (Nat.le_of_ble_eq_true rfl) (Nat.le_of_ble_eq_true rfl) ?_
          refine sp_fill hO hn hk hw hE hb 24 d Iv J _ rest u 0 (ltW (a + 1)) (hp_u g a h) (CV_of m1 hVz) hF2 hW2 huk hrL hrc (by omega) (fun I' r p1 p2 p3 => ?_)
          have k1p : ∀ c, c ≠ 12 → c ≠ 13 → c ≠ 24 → I' c = I c := fun c c1 c2 c3 => by rw [p1 c c1 c2, m1 c c1 c2]; exact k1z c c1 c2 c3
          have k2p : I' 24 = Ix 24 := by rw [p1 24 (by decide) (by decide), m1 24 (by decide) (by decide)]; exact k2z
          try dsimp only [zz_s1, zz_s2, zz_kill, zz_ent, zz_fl, List.set_cons_zero, List.set_cons_succ, List.getElem?_cons_zero, List.getElem?_cons_succ, Option.toList_some, Option.toList_none, List.cons_append, List.nil_append, List.append_nil, List.length_cons, List.length_nil, List.replicate_succ, List.replicate_zero, Nat.reduceAdd, Nat.reduceSub]
          refine zz_if_eq (tgt := 95) dX2_leastRow_87 (by decide) (fun q5 => ?_) (fun q5 => ?_)
          · refine zz_iload_n rfl dX2_leastRow_95 ?_
            refine zz_istore dX2_leastRow_96 (by decide) ?_
            refine zz_iinc dX2_leastRow_98 rfl (congrArg (HAdd.hAdd _) (show Int32.ofInt 1 = 1 by decide)) (by decide) ?_
            refine zz_goto (tgt := 38) dX2_leastRow_101 (by decide) ?_
            try dsimp only [zz_s1, zz_s2, zz_kill, zz_ent, zz_fl, List.set_cons_zero, List.set_cons_succ, List.getElem?_cons_zero, List.getElem?_cons_succ, Option.toList_some, Option.toList_none, List.cons_append, List.nil_append, List.append_nil, List.length_cons, List.length_nil, List.replicate_succ, List.replicate_zero, Nat.reduceAdd, Nat.reduceSub]
            rw [nI_1]
            refine ih2 (h + 1) I' (by omega) k1p k2p (fun h' hh' => ?_)
            by_cases e : h' = h
            · rw [e]; exact p2.f q5
            · exact k3 h' (by omega)
          · skip
            refine zz_iload rfl dX2_leastRow_90 ?_
            refine zz_goto (tgt := 96) dX2_leastRow_92 (by decide) ?_
            refine zz_istore dX2_leastRow_96 (by decide) ?_
            refine zz_iinc dX2_leastRow_98 rfl (congrArg (HAdd.hAdd _) (show Int32.ofInt 1 = 1 by decide)) (by decide) ?_
            refine zz_goto (tgt := 38) dX2_leastRow_101 (by decide) ?_
            try dsimp only [zz_s1, zz_s2, zz_kill, zz_ent, zz_fl, List.set_cons_zero, List.set_cons_succ, List.getElem?_cons_zero, List.getElem?_cons_succ, Option.toList_some, Option.toList_none, List.cons_append, List.nil_append, List.append_nil, List.length_cons, List.length_nil, List.replicate_succ, List.replicate_zero, Nat.reduceAdd, Nat.reduceSub]
            rw [nI_1]
            refine zz_iload rfl dX2_leastRow_38 ?_
            refine zz_iload_n rfl dX2_leastRow_40 ?_
            try dsimp only [zz_s1, zz_s2, zz_kill, zz_ent, zz_fl, List.set_cons_zero, List.set_cons_succ, List.getElem?_cons_zero, List.getElem?_cons_succ, Option.toList_some, Option.toList_none, List.cons_append, List.nil_append, List.append_nil, List.length_cons, List.length_nil, List.replicate_succ, List.replicate_zero, Nat.reduceAdd, Nat.reduceSub]
            refine zz_icmp_ge (tgt := 104) dX2_leastRow_41 (by decide) (fun q6 => ?_) (fun q6 => ?_)
            · exact fin h I' _ k1p k2p (by omega) (by omega) (p2.t q5) k3
            · skip
              refine zz_iload rfl dX2_leastRow_44 ?_
              refine zz_iload_n rfl dX2_leastRow_46 ?_
              try dsimp only [zz_s1, zz_s2, zz_kill, zz_ent, zz_fl, List.set_cons_zero, List.set_cons_succ, List.getElem?_cons_zero, List.getElem?_cons_succ, Option.toList_some, Option.toList_none, List.cons_append, List.nil_append, List.append_nil, List.length_cons, List.length_nil, List.replicate_succ, List.replicate_zero, Nat.reduceAdd, Nat.reduceSub]
              refine zz_icmp_ne (tgt := 104) dX2_leastRow_47 (by decide) (fun q7 => ?_) (fun q7 => ?_)
              · exact fin h I' _ k1p k2p (by omega) (by omega) (p2.t q5) k3
              · have := (nI_eq (by omega) (by omega)).mp q7
                omega
      exact inner u 0 Ix (by omega) f1 rfl (fun h' hh' => by omega)
  refine outer n 0 0 _ I (fun _ => 0) _ _ (by omega) (fun x => ?_) (fun _ _ _ _ => rfl) (fun b hb' => by omega) ⟨fun x _ z => absurd (ltW_t.mp z) (Nat.not_lt_zero x), fun x y _ _ z => absurd (ltW_t.mp z) (Nat.not_lt_zero x)⟩ (Nat.le_refl _) (Nat.zero_le _) ((hp_x0 (fun x _ => ltW_f.mpr (Nat.not_lt_zero x))).mpr hx) (fun f _ c hc => by omega)
  rw [allI hn, ltW_f]
  simp
end PFew

