/-! ===== ring ===== -/
def nx (n a : Nat) : Nat := if a + 1 < n then a + 1 else 0
/-- the ring's first i pairs -/
def re (n i : Nat) : Nat → Nat → Bool := fun x y => decide (x < i ∧ y = nx n x) || decide (y < i ∧ x = nx n y)
/-- a pair joined -/
def jn (E : Nat → Nat → Bool) (a b : Nat) : Nat → Nat → Bool := fun x y => E x y || (decide (x = a ∧ y = b) || decide (x = b ∧ y = a))
theorem nx_ne {n i : Nat} (hn : 3 ≤ n) (hi : i < n) : nx n i ≠ i ∧ nx n i < n ∧ nx n (nx n i) ≠ i := by
  unfold nx
  by_cases h : i + 1 < n
  · rw [if_pos h]
    refine ⟨by omega, h, ?_⟩
    by_cases h2 : i + 1 + 1 < n
    · rw [if_pos h2]; omega
    · rw [if_neg h2]; omega
  · rw [if_neg h]
    refine ⟨by omega, by omega, ?_⟩
    rw [if_pos (by omega)]
    omega
theorem re_jn (n i : Nat) : jn (re n i) i (nx n i) = re n (i + 1) := by
  funext x y
  unfold jn re
  rw [Bool.eq_iff_iff]
  simp only [Bool.or_eq_true, decide_eq_true_eq]
  constructor
  · rintro ((⟨a, b⟩ | ⟨a, b⟩) | ⟨a, b⟩ | ⟨a, b⟩)
    · exact Or.inl ⟨by omega, b⟩
    · exact Or.inr ⟨by omega, b⟩
    · exact Or.inl ⟨by omega, by rw [a]; exact b⟩
    · exact Or.inr ⟨by omega, by rw [b]; exact a⟩
  · rintro (⟨a, b⟩ | ⟨a, b⟩)
    · by_cases e : x = i
      · exact Or.inr (Or.inl ⟨e, by rw [← e]; exact b⟩)
      · exact Or.inl (Or.inl ⟨by omega, b⟩)
    · by_cases e : y = i
      · exact Or.inr (Or.inr ⟨by rw [← e]; exact b, e⟩)
      · exact Or.inl (Or.inr ⟨by omega, b⟩)
theorem tg_jn {E : Nat → Nat → Bool} {a b : Nat} (h1 : E a b = false) (h2 : E b a = false) : tg E a b = jn E a b := by
  funext x y
  unfold tg jn
  by_cases c1 : x = a ∧ y = b
  · rw [c1.1, c1.2, h1]; simp
  · by_cases c2 : x = b ∧ y = a
    · rw [c2.1, c2.2, h2]; simp
    · simp [c1, c2]
theorem re_no {n i : Nat} (hn : 3 ≤ n) (hi : i < n) : re n i i (nx n i) = false ∧ re n i (nx n i) i = false := by
  obtain ⟨h1, h2, h3⟩ := nx_ne hn hi
  unfold re
  constructor
  · simp only [Bool.or_eq_false_iff, decide_eq_false_iff_not]
    exact ⟨fun q => by omega, fun q => h3 q.2.symm⟩
  · simp only [Bool.or_eq_false_iff, decide_eq_false_iff_not]
    exact ⟨fun q => h3 q.2.symm, fun q => by omega⟩
theorem nxt_mod {n i : Nat} (hn : 1 ≤ n) (hi : i < n) : (i + 1) % n = nx n i := by
  unfold nx
  by_cases h : i + 1 < n
  · rw [if_pos h, Nat.mod_eq_of_lt h]
  · rw [if_neg h, show i + 1 = n by omega, Nat.mod_self]
theorem jn_bits {g : Nat → Int32} {E : Nat → Nat → Bool} {l a b : Nat} (h : ∀ x, x < 24 → ∀ y, y < 32 → bt (g (24 * l + x)) y = E x y) (ha : a < 24) (hb : b < 24) : ∀ x, x < 24 → ∀ y, y < 32 → bt (upd (upd g (24 * l + a) (g (24 * l + a) ||| ((1 : Int32) <<< (nI b &&& 31)))) (24 * l + b) (upd g (24 * l + a) (g (24 * l + a) ||| ((1 : Int32) <<< (nI b &&& 31))) (24 * l + b) ||| ((1 : Int32) <<< (nI a &&& 31))) (24 * l + x)) y = jn E a b x y := by
  intro x hx y hy
  unfold jn
  by_cases e1 : x = b
  · subst e1
    rw [pk_us, b_or, b_bit (by omega) hy]
    by_cases e2 : x = a
    · subst e2
      rw [pk_us, b_or, b_bit (by omega) hy, h x hx y hy]
      simp
    · rw [pk_un (by omega), h x hx y hy]
      simp [e2]
  · rw [pk_un (by omega)]
    by_cases e2 : x = a
    · subst e2
      rw [pk_us, b_or, b_bit (by omega) hy, h x hx y hy]
      simp [e1]
    · rw [pk_un (by omega), h x hx y hy]
      simp [e1, e2]
section PRing
variable {M : zz_M} {I : zz_I} {J : zz_J} {Q : zz_Q}
/-- flip as what it does to a line -/
theorem sp_flip (d : Nat) (hO : OK M) {l n a b : Nat} {kd ag : Int32} {E : Nat → Nat → Bool} {sg : Nat → Int32} {rw : Nat → Nat → Int32} (hl : l < 8) (ha : a < 24) (hb : b < 24) (hab : a ≠ b) (hc : CL I l n kd ag E sg rw) (hQ : ∀ I' : zz_I, (∀ c, c ≠ LN l + 1 → I' c = I c) → CL I' l n kd ag (tg E a b) sg rw → Q none M I' J) : zz_D mX3_flip d [.ref (LN l), .int (nI a), .int (nI b)] M I J Q := by
  refine sp_X3_flip d hO hl (vp_in_nI ha (by decide)) (vp_in_nI hb (by decide)) (fun I' g1 g2 => ?_)
  rw [nI_clamp (by omega), nI_clamp (by omega)] at g2
  have e0 : I' (LN l) = I (LN l) := g1 _ (by omega)
  refine hQ I' g1 ⟨by rw [e0]; exact hc.1, by rw [e0]; exact hc.2.1, by rw [e0]; exact hc.2.2.1, ?_, fun x hx => by rw [g1 _ (by omega)]; exact hc.2.2.2.2.1 x hx, fun x hx i hi => by rw [g1 _ (by omega)]; exact hc.2.2.2.2.2 x hx i hi⟩
  rw [g2]
  exact tg_bits hc.2.2.2.1 ha hb hab
theorem sp_X10_join (d : Nat) (hO : OK M) {l n a b : Nat} {kd ag : Int32} {E : Nat → Nat → Bool} {sg : Nat → Int32} {rw : Nat → Nat → Int32} (hl : l < 8) (ha : a < 24) (hb : b < 24) (hc : ML I l n kd ag E sg rw) (hQ : ∀ I' : zz_I, (∀ c, c ≠ 262 → I' c = I c) → (∀ x, (x < 24 * l ∨ 24 * l + 24 ≤ x) → I' 262 x = I 262 x) → ML I' l n kd ag (jn E a b) sg rw → Q none M I' J) : zz_D mX10_join d [.ref 259, .int (nI l), .int (nI a), .int (nI b)] M I J Q := by
  have ea : (24 : Int32) * nI l + nI a = nI (24 * l + a) := by rw [show (24 : Int32) = nI 24 from rfl, pk_mul, nI_add]
  have eb : (24 : Int32) * nI l + nI b = nI (24 * l + b) := by rw [show (24 : Int32) = nI 24 from rfl, pk_mul, nI_add]
  have va : vp_in ((24 : Int32) * nI l + nI a) 192 := by rw [ea]; exact vp_in_nI (by omega) (by decide)
  have vb : vp_in ((24 : Int32) * nI l + nI b) 192 := by rw [eb]; exact vp_in_nI (by omega) (by decide)
  refine zz_D_of rfl (Nat.le_of_ble_eq_true rfl) ?_
  try dsimp only [zz_s1, zz_s2, zz_kill, zz_ent, zz_fl, List.set_cons_zero, List.set_cons_succ, List.getElem?_cons_zero, List.getElem?_cons_succ, Option.toList_some, Option.toList_none, List.cons_append, List.nil_append, List.append_nil, List.length_cons, List.length_nil, List.replicate_succ, List.replicate_zero, Nat.reduceAdd, Nat.reduceSub]
  refine zz_aload_n rfl dX10_join_0 ?_
  refine zz_getr dX10_join_1 fX10_16 (fun _ _ _ _ => rfl) (os_259 hO) (or_259_2 hO) ?_
  refine zz_bipush (v := 24) (by decide) dX10_join_4 ?_
  refine zz_iload_n rfl dX10_join_6 ?_
  refine zz_imul dX10_join_7 ?_
  refine zz_iload_n rfl dX10_join_8 ?_
  refine zz_iadd dX10_join_9 ?_
  refine zz_dup2 rfl rfl dX10_join_10 ?_
  refine zz_iald dX10_join_11 (os_262 hO) va ?_
  refine zz_iconst (v := 1) (by decide) dX10_join_12 ?_
  refine zz_iload_n rfl dX10_join_13 ?_
  refine zz_ishl dX10_join_14 ?_
  refine zz_ior dX10_join_15 ?_
  refine zz_iast dX10_join_16 (os_262 hO) va ?_
  refine zz_aload_n rfl dX10_join_17 ?_
  refine zz_getr dX10_join_18 fX10_16 (fun _ _ _ _ => rfl) (os_259 hO) (or_259_2 hO) ?_
  refine zz_bipush (v := 24) (by decide) dX10_join_21 ?_
  refine zz_iload_n rfl dX10_join_23 ?_
  refine zz_imul dX10_join_24 ?_
  refine zz_iload_n rfl dX10_join_25 ?_
  refine zz_iadd dX10_join_26 ?_
  refine zz_dup2 rfl rfl dX10_join_27 ?_
  refine zz_iald dX10_join_28 (os_262 hO) vb ?_
  refine zz_iconst (v := 1) (by decide) dX10_join_29 ?_
  refine zz_iload_n rfl dX10_join_30 ?_
  refine zz_ishl dX10_join_31 ?_
  refine zz_ior dX10_join_32 ?_
  refine zz_iast dX10_join_33 (os_262 hO) vb ?_
  refine zz_return dX10_join_34 rfl ?_
  rw [ea, eb, nI_clamp (show 24 * l + a < 2 ^ 31 by omega), nI_clamp (show 24 * l + b < 2 ^ 31 by omega), zz_ui_at]
  refine hQ _ (fun c hc => ?_) (fun x hx => ?_) ⟨?_, ?_, ?_, ?_, fun x hx => ?_, fun x hx i hi => ?_⟩
  · rw [zz_ui_ne _ _ _ hc, zz_ui_ne _ _ _ hc]
  · rw [zz_ui_at, zz_ui_at, pk_un (by omega), pk_un (by omega)]
  · rw [zz_ui_ne _ _ _ (by decide), zz_ui_ne _ _ _ (by decide)]; exact hc.1
  · rw [zz_ui_ne _ _ _ (by decide), zz_ui_ne _ _ _ (by decide)]; exact hc.2.1
  · rw [zz_ui_ne _ _ _ (by decide), zz_ui_ne _ _ _ (by decide)]; exact hc.2.2.1
  · rw [zz_ui_at, zz_ui_at]
    exact jn_bits hc.2.2.2.1 ha hb
  · rw [zz_ui_ne _ _ _ (by decide), zz_ui_ne _ _ _ (by decide)]; exact hc.2.2.2.2.1 x hx
  · rw [zz_ui_ne _ _ _ (by decide), zz_ui_ne _ _ _ (by decide)]; exact hc.2.2.2.2.2 x hx i hi
theorem FM_260 {l : Nat} {I I' : zz_I} (h1 : ∀ c, c ≠ 262 → I' c = I c) (h2 : ∀ x, (x < 24 * l ∨ 24 * l + 24 ≤ x) → I' 262 x = I 262 x) : FM l I I' :=
  ⟨fun c hc => h1 c (by omega), fun l' a b => ⟨by rw [h1 _ (by decide)], by rw [h1 _ (by decide)], by rw [h1 _ (by decide)], fun x hx => h2 _ (by omega), fun x hx => by rw [h1 _ (by decide)], fun j hj => by rw [h1 _ (by decide)]⟩⟩
theorem sp_X9_ring (d : Nat) (hO : OK M) {l n : Int32} (h1 : ∀ j m, j < 8 → 3 ≤ m → m ≤ 24 → l = nI j → n = nI m → ∀ I' : zz_I, FC j I I' → CL I' j m 2 (I (LN j) 2 + 1) (re m m) (fun _ => 0) (fun _ _ => 0) → Q (some (.int n)) M I' J) (h2 : ¬ (vp_in l 8 ∧ 3 ≤ n ∧ n ≤ 24) → Q (some (.int (-2))) M I J) : zz_D mX9_ring (d + 2) [.ref 1, .int l, .int n] M I J Q := by
  refine zz_D_of rfl (Nat.le_of_ble_eq_true rfl) ?_
  try dsimp only [zz_s1, zz_s2, zz_kill, zz_ent, zz_fl, List.set_cons_zero, List.set_cons_succ, List.getElem?_cons_zero, List.getElem?_cons_succ, Option.toList_some, Option.toList_none, List.cons_append, List.nil_append, List.append_nil, List.length_cons, List.length_nil, List.replicate_succ, List.replicate_zero, Nat.reduceAdd, Nat.reduceSub]
  refine zz_aload_n rfl dX9_ring_0 ?_
  refine zz_iload_n rfl dX9_ring_1 ?_
  try dsimp only [zz_s1, zz_s2, zz_kill, zz_ent, zz_fl, List.set_cons_zero, List.set_cons_succ, List.getElem?_cons_zero, List.getElem?_cons_succ, Option.toList_some, Option.toList_none, List.cons_append, List.nil_append, List.append_nil, List.length_cons, List.length_nil, List.replicate_succ, List.replicate_zero, Nat.reduceAdd, Nat.reduceSub]
  refine zz_cV1 dX9_ring_2 lX9_100 rfl (os_1 hO) rfl rfl (Nat.le_of_ble_eq_true rfl) (Nat.le_of_ble_eq_true rfl) ?_
  refine sp_lineAt (d + 1) hO (fun j hj e => ?_) (fun hv => ?_)
  try dsimp only [zz_s1, zz_s2, zz_kill, zz_ent, zz_fl, List.set_cons_zero, List.set_cons_succ, List.getElem?_cons_zero, List.getElem?_cons_succ, Option.toList_some, Option.toList_none, List.cons_append, List.nil_append, List.append_nil, List.length_cons, List.length_nil, List.replicate_succ, List.replicate_zero, Nat.reduceAdd, Nat.reduceSub]
  · skip
    refine zz_astore_n dX9_ring_5 (by decide) ?_
    refine zz_aload_n rfl dX9_ring_6 ?_
    try dsimp only [zz_s1, zz_s2, zz_kill, zz_ent, zz_fl, List.set_cons_zero, List.set_cons_succ, List.getElem?_cons_zero, List.getElem?_cons_succ, Option.toList_some, Option.toList_none, List.cons_append, List.nil_append, List.append_nil, List.length_cons, List.length_nil, List.replicate_succ, List.replicate_zero, Nat.reduceAdd, Nat.reduceSub]
    refine zz_ifnull dX9_ring_7 ?_
    try dsimp only [zz_s1, zz_s2, zz_kill, zz_ent, zz_fl, List.set_cons_zero, List.set_cons_succ, List.getElem?_cons_zero, List.getElem?_cons_succ, Option.toList_some, Option.toList_none, List.cons_append, List.nil_append, List.append_nil, List.length_cons, List.length_nil, List.replicate_succ, List.replicate_zero, Nat.reduceAdd, Nat.reduceSub]
    refine zz_iload_n rfl dX9_ring_10 ?_
    refine zz_iconst (v := 3) (by decide) dX9_ring_11 ?_
    try dsimp only [zz_s1, zz_s2, zz_kill, zz_ent, zz_fl, List.set_cons_zero, List.set_cons_succ, List.getElem?_cons_zero, List.getElem?_cons_succ, Option.toList_some, Option.toList_none, List.cons_append, List.nil_append, List.append_nil, List.length_cons, List.length_nil, List.replicate_succ, List.replicate_zero, Nat.reduceAdd, Nat.reduceSub]
    refine zz_icmp_lt (tgt := 21) dX9_ring_12 (by decide) (fun h => ?_) (fun h => ?_)
    · refine zz_bipush (v := (-2)) (by decide) dX9_ring_21 ?_
      refine zz_ireturn dX9_ring_23 rfl (by first | rfl | decide | assumption) ?_
      exact h2 (fun q => Int32.not_lt.mpr q.2.1 h)
    · skip
      refine zz_iload_n rfl dX9_ring_15 ?_
      refine zz_bipush (v := 24) (by decide) dX9_ring_16 ?_
      try dsimp only [zz_s1, zz_s2, zz_kill, zz_ent, zz_fl, List.set_cons_zero, List.set_cons_succ, List.getElem?_cons_zero, List.getElem?_cons_succ, Option.toList_some, Option.toList_none, List.cons_append, List.nil_append, List.append_nil, List.length_cons, List.length_nil, List.replicate_succ, List.replicate_zero, Nat.reduceAdd, Nat.reduceSub]
      refine zz_icmp_le (tgt := 24) dX9_ring_18 (by decide) (fun h5 => ?_) (fun h5 => ?_)
      · obtain ⟨m, hm, rfl⟩ := nI_of2 (n := 24) (M := 24) rfl (fun q => h (Int32.lt_trans q (by decide))) h5
        have hm1 : 3 ≤ m := by
          refine Nat.le_of_not_lt fun q => h ?_
          exact nI_lt (b := 3) q (by decide)
        refine zz_aload_n rfl dX9_ring_24 ?_
        refine zz_iconst (v := 2) (by decide) dX9_ring_25 ?_
        refine zz_iload_n rfl dX9_ring_26 ?_
        try dsimp only [zz_s1, zz_s2, zz_kill, zz_ent, zz_fl, List.set_cons_zero, List.set_cons_succ, List.getElem?_cons_zero, List.getElem?_cons_succ, Option.toList_some, Option.toList_none, List.cons_append, List.nil_append, List.append_nil, List.length_cons, List.length_nil, List.replicate_succ, List.replicate_zero, Nat.reduceAdd, Nat.reduceSub]
        refine zz_cV2 dX9_ring_27 lX9_104 rfl (ol_obj hO hj) rfl rfl (Nat.le_of_ble_eq_true rfl) (Nat.le_of_ble_eq_true rfl) ?_
        refine sp_X3_renew d hO hj (fun I0 g1 g2 => ?_)
        try dsimp only [zz_s1, zz_s2, zz_kill, zz_ent, zz_fl, List.set_cons_zero, List.set_cons_succ, List.getElem?_cons_zero, List.getElem?_cons_succ, Option.toList_some, Option.toList_none, List.cons_append, List.nil_append, List.append_nil, List.length_cons, List.length_nil, List.replicate_succ, List.replicate_zero, Nat.reduceAdd, Nat.reduceSub]
        refine zz_iconst (v := 0) (by decide) dX9_ring_30 ?_
        refine zz_istore dX9_ring_31 (by decide) ?_
        try dsimp only [zz_s1, zz_s2, zz_kill, zz_ent, zz_fl, List.set_cons_zero, List.set_cons_succ, List.getElem?_cons_zero, List.getElem?_cons_succ, Option.toList_some, Option.toList_none, List.cons_append, List.nil_append, List.append_nil, List.length_cons, List.length_nil, List.replicate_succ, List.replicate_zero, Nat.reduceAdd, Nat.reduceSub]
        have loop : ∀ (r a : Nat) (Ix : zz_I), a + r = m → FC j I Ix → CL Ix j m 2 (I (LN j) 2 + 1) (re m a) (fun _ => 0) (fun _ _ => 0) → zz_G mX9_ring (d + 2) 0 33 [some (.ref 1), some (.int l), some (.int (nI m)), some (.ref (LN j)), some (.int (nI a))] [] M Ix J Q := by
          intro r
          induction r with
          | zero =>
            intro a Ix ha hf hc
            have ea : a = m := by omega
            subst ea
            refine zz_iload rfl dX9_ring_33 ?_
            refine zz_iload_n rfl dX9_ring_35 ?_
            try dsimp only [zz_s1, zz_s2, zz_kill, zz_ent, zz_fl, List.set_cons_zero, List.set_cons_succ, List.getElem?_cons_zero, List.getElem?_cons_succ, Option.toList_some, Option.toList_none, List.cons_append, List.nil_append, List.append_nil, List.length_cons, List.length_nil, List.replicate_succ, List.replicate_zero, Nat.reduceAdd, Nat.reduceSub]
            refine zz_icmp_ge (tgt := 67) dX9_ring_36 (by decide) (fun h6 => ?_) (fun h6 => ?_)
            · refine zz_iload_n rfl dX9_ring_67 ?_
              refine zz_ireturn dX9_ring_68 rfl (by first | rfl | decide | assumption) ?_
              exact h1 j a hj hm1 hm e rfl Ix hf hc
            · exact absurd (nI_le (Nat.le_refl a) (by omega)) h6
          | succ r ih =>
            intro a Ix ha hf hc
            refine zz_iload rfl dX9_ring_33 ?_
            refine zz_iload_n rfl dX9_ring_35 ?_
            try dsimp only [zz_s1, zz_s2, zz_kill, zz_ent, zz_fl, List.set_cons_zero, List.set_cons_succ, List.getElem?_cons_zero, List.getElem?_cons_succ, Option.toList_some, Option.toList_none, List.cons_append, List.nil_append, List.append_nil, List.length_cons, List.length_nil, List.replicate_succ, List.replicate_zero, Nat.reduceAdd, Nat.reduceSub]
            refine zz_icmp_ge (tgt := 67) dX9_ring_36 (by decide) (fun h6 => ?_) (fun h6 => ?_)
            · exact absurd h6 (nI_ge (by omega) (by omega))
            · skip
              have hnx := nx_ne hm1 (show a < m by omega)
              have key : zz_G mX9_ring (d + 2) 0 58 [some (.ref 1), some (.int l), some (.int (nI m)), some (.ref (LN j)), some (.int (nI a))] [.int (nI (nx m a)), .int (nI a), .ref (LN j)] M Ix J Q := by
                refine zz_cV2 dX9_ring_58 lX9_118 rfl (ol_obj hO hj) rfl rfl (Nat.le_of_ble_eq_true rfl) (Nat.le_of_ble_eq_true rfl) ?_
                refine sp_flip (d + 1) hO hj (show a < 24 by omega) (show nx m a < 24 by omega) (Ne.symm hnx.1) hc (fun I1 k1 k2 => ?_)
                try dsimp only [zz_s1, zz_s2, zz_kill, zz_ent, zz_fl, List.set_cons_zero, List.set_cons_succ, List.getElem?_cons_zero, List.getElem?_cons_succ, Option.toList_some, Option.toList_none, List.cons_append, List.nil_append, List.append_nil, List.length_cons, List.length_nil, List.replicate_succ, List.replicate_zero, Nat.reduceAdd, Nat.reduceSub]
                refine zz_iinc dX9_ring_61 rfl (congrArg (HAdd.hAdd _) (show Int32.ofInt 1 = 1 by decide)) (by decide) ?_
                refine zz_goto (tgt := 33) dX9_ring_64 (by decide) ?_
                try dsimp only [zz_s1, zz_s2, zz_kill, zz_ent, zz_fl, List.set_cons_zero, List.set_cons_succ, List.getElem?_cons_zero, List.getElem?_cons_succ, Option.toList_some, Option.toList_none, List.cons_append, List.nil_append, List.append_nil, List.length_cons, List.length_nil, List.replicate_succ, List.replicate_zero, Nat.reduceAdd, Nat.reduceSub]
                rw [nI_1]
                rw [tg_jn (re_no hm1 (by omega)).1 (re_no hm1 (by omega)).2, re_jn] at k2
                exact ih (a + 1) I1 (by omega) (FC.tr hf (fun c hc => k1 c (by omega))) k2
              refine zz_aload_n rfl dX9_ring_39 ?_
              refine zz_iload rfl dX9_ring_40 ?_
              refine zz_iload rfl dX9_ring_42 ?_
              refine zz_iconst (v := 1) (by decide) dX9_ring_44 ?_
              refine zz_iadd dX9_ring_45 ?_
              refine zz_iload_n rfl dX9_ring_46 ?_
              try dsimp only [zz_s1, zz_s2, zz_kill, zz_ent, zz_fl, List.set_cons_zero, List.set_cons_succ, List.getElem?_cons_zero, List.getElem?_cons_succ, Option.toList_some, Option.toList_none, List.cons_append, List.nil_append, List.append_nil, List.length_cons, List.length_nil, List.replicate_succ, List.replicate_zero, Nat.reduceAdd, Nat.reduceSub]
              rw [nI_1]
              refine zz_icmp_ge (tgt := 57) dX9_ring_47 (by decide) (fun h7 => ?_) (fun h7 => ?_)
              · refine zz_iconst (v := 0) (by decide) dX9_ring_57 ?_
                try dsimp only [zz_s1, zz_s2, zz_kill, zz_ent, zz_fl, List.set_cons_zero, List.set_cons_succ, List.getElem?_cons_zero, List.getElem?_cons_succ, Option.toList_some, Option.toList_none, List.cons_append, List.nil_append, List.append_nil, List.length_cons, List.length_nil, List.replicate_succ, List.replicate_zero, Nat.reduceAdd, Nat.reduceSub]
                have : nx m a = 0 := by
                  unfold nx
                  rw [if_neg]
                  intro q
                  exact nI_ge q (by omega) h7
                rw [this] at key
                exact key
              · skip
                refine zz_iload rfl dX9_ring_50 ?_
                refine zz_iconst (v := 1) (by decide) dX9_ring_52 ?_
                refine zz_iadd dX9_ring_53 ?_
                refine zz_goto (tgt := 58) dX9_ring_54 (by decide) ?_
                try dsimp only [zz_s1, zz_s2, zz_kill, zz_ent, zz_fl, List.set_cons_zero, List.set_cons_succ, List.getElem?_cons_zero, List.getElem?_cons_succ, Option.toList_some, Option.toList_none, List.cons_append, List.nil_append, List.append_nil, List.length_cons, List.length_nil, List.replicate_succ, List.replicate_zero, Nat.reduceAdd, Nat.reduceSub]
                rw [nI_1]
                have : nx m a = a + 1 := by
                  unfold nx
                  rw [if_pos]
                  refine Nat.lt_of_not_le fun q => h7 (nI_le q (by omega))
                rw [this] at key
                exact key
        exact loop m 0 I0 (by omega) g1 (by
          have : re m 0 = fun _ _ => false := by funext x y; simp [re]
          rw [this]; exact g2)
      · skip
        refine zz_bipush (v := (-2)) (by decide) dX9_ring_21 ?_
        refine zz_ireturn dX9_ring_23 rfl (by first | rfl | decide | assumption) ?_
        exact h2 (fun q => h5 q.2.2)
  · try dsimp only [zz_s1, zz_s2, zz_kill, zz_ent, zz_fl, List.set_cons_zero, List.set_cons_succ, List.getElem?_cons_zero, List.getElem?_cons_succ, Option.toList_some, Option.toList_none, List.cons_append, List.nil_append, List.append_nil, List.length_cons, List.length_nil, List.replicate_succ, List.replicate_zero, Nat.reduceAdd, Nat.reduceSub]
    refine zz_nstore_n dX9_ring_5 (by decide) ?_
    refine zz_nload_n rfl dX9_ring_6 ?_
    try dsimp only [zz_s1, zz_s2, zz_kill, zz_ent, zz_fl, List.set_cons_zero, List.set_cons_succ, List.getElem?_cons_zero, List.getElem?_cons_succ, Option.toList_some, Option.toList_none, List.cons_append, List.nil_append, List.append_nil, List.length_cons, List.length_nil, List.replicate_succ, List.replicate_zero, Nat.reduceAdd, Nat.reduceSub]
    refine zz_ifnullN (tgt := 21) dX9_ring_7 (by decide) ?_
    refine zz_bipush (v := (-2)) (by decide) dX9_ring_21 ?_
    refine zz_ireturn dX9_ring_23 rfl (by first | rfl | decide | assumption) ?_
    exact h2 (fun q => hv q.1)
theorem sp_X10_ring (d : Nat) (hO : OK M) {l n : Int32} (h1 : ∀ j m, j < 8 → 3 ≤ m → m ≤ 24 → l = nI j → n = nI m → ∀ I' : zz_I, FM j I I' → ML I' j m 2 (I 265 j + 1) (re m m) (fun _ => 0) (fun _ _ => 0) → Q (some (.int n)) M I' J) (h2 : ¬ (vp_in l 8 ∧ 3 ≤ n ∧ n ≤ 24) → Q (some (.int (-2))) M I J) : zz_D mX10_ring (d + 2) [.ref 259, .int l, .int n] M I J Q := by
  refine zz_D_of rfl (Nat.le_of_ble_eq_true rfl) ?_
  try dsimp only [zz_s1, zz_s2, zz_kill, zz_ent, zz_fl, List.set_cons_zero, List.set_cons_succ, List.getElem?_cons_zero, List.getElem?_cons_succ, Option.toList_some, Option.toList_none, List.cons_append, List.nil_append, List.append_nil, List.length_cons, List.length_nil, List.replicate_succ, List.replicate_zero, Nat.reduceAdd, Nat.reduceSub]
  refine zz_iload_n rfl dX10_ring_0 ?_
  try dsimp only [zz_s1, zz_s2, zz_kill, zz_ent, zz_fl, List.set_cons_zero, List.set_cons_succ, List.getElem?_cons_zero, List.getElem?_cons_succ, Option.toList_some, Option.toList_none, List.cons_append, List.nil_append, List.append_nil, List.length_cons, List.length_nil, List.replicate_succ, List.replicate_zero, Nat.reduceAdd, Nat.reduceSub]
  refine zz_cS1 dX10_ring_1 lX10_85 rfl (Nat.le_of_ble_eq_true rfl) (Nat.le_of_ble_eq_true rfl) ?_
  refine sp_isLine d (fun r hr => ?_)
  try dsimp only [zz_s1, zz_s2, zz_kill, zz_ent, zz_fl, List.set_cons_zero, List.set_cons_succ, List.getElem?_cons_zero, List.getElem?_cons_succ, Option.toList_some, Option.toList_none, List.cons_append, List.nil_append, List.append_nil, List.length_cons, List.length_nil, List.replicate_succ, List.replicate_zero, Nat.reduceAdd, Nat.reduceSub]
  refine zz_if_eq (tgt := 21) dX10_ring_4 (by decide) (fun h => ?_) (fun h => ?_)
  · refine zz_bipush (v := (-2)) (by decide) dX10_ring_21 ?_
    refine zz_ireturn dX10_ring_23 rfl (by first | rfl | decide | assumption) ?_
    exact h2 (fun q => hr.f h q.1)
  · skip
    refine zz_iload_n rfl dX10_ring_7 ?_
    refine zz_i2l dX10_ring_8 ?_
    refine zz_ldc2 tX10_113 dX10_ring_9 ?_
    refine zz_ldc2 tX10_99 dX10_ring_12 ?_
    try dsimp only [zz_s1, zz_s2, zz_kill, zz_ent, zz_fl, List.set_cons_zero, List.set_cons_succ, List.getElem?_cons_zero, List.getElem?_cons_succ, Option.toList_some, Option.toList_none, List.cons_append, List.nil_append, List.append_nil, List.length_cons, List.length_nil, List.replicate_succ, List.replicate_zero, Nat.reduceAdd, Nat.reduceSub]
    refine zz_cS3 dX10_ring_15 lX10_81 rfl (Nat.le_of_ble_eq_true rfl) (Nat.le_of_ble_eq_true rfl) ?_
    refine sp_in (d + 1) (fun r2 hr2 => ?_)
    try dsimp only [zz_s1, zz_s2, zz_kill, zz_ent, zz_fl, List.set_cons_zero, List.set_cons_succ, List.getElem?_cons_zero, List.getElem?_cons_succ, Option.toList_some, Option.toList_none, List.cons_append, List.nil_append, List.append_nil, List.length_cons, List.length_nil, List.replicate_succ, List.replicate_zero, Nat.reduceAdd, Nat.reduceSub]
    have hr2 : bo r2 (3 ≤ n ∧ n ≤ 24) := hr2.iff (by
      rw [Int64.le_iff_toInt_le, Int64.le_iff_toInt_le, i2l_int, Int32.le_iff_toInt_le, Int32.le_iff_toInt_le]
      exact Iff.rfl)
    refine zz_if_ne (tgt := 24) dX10_ring_18 (by decide) (fun h3 => ?_) (fun h3 => ?_)
    · obtain ⟨j, hj, rfl⟩ := vp_in_of (hr.t h) (by decide)
      obtain ⟨q1, q2⟩ := hr2.t h3
      obtain ⟨m, hm, rfl⟩ := nI_of2 (n := 24) (M := 24) rfl (fun q => Int32.not_lt.mpr q1 (Int32.lt_trans q (by decide))) q2
      have hm1 : 3 ≤ m := by
        refine Nat.le_of_not_lt fun q => ?_
        exact nI_ge (b := 3) q (by decide) q1
      refine zz_aload_n rfl dX10_ring_24 ?_
      refine zz_iload_n rfl dX10_ring_25 ?_
      refine zz_iload_n rfl dX10_ring_26 ?_
      refine zz_iconst (v := 2) (by decide) dX10_ring_27 ?_
      try dsimp only [zz_s1, zz_s2, zz_kill, zz_ent, zz_fl, List.set_cons_zero, List.set_cons_succ, List.getElem?_cons_zero, List.getElem?_cons_succ, Option.toList_some, Option.toList_none, List.cons_append, List.nil_append, List.append_nil, List.length_cons, List.length_nil, List.replicate_succ, List.replicate_zero, Nat.reduceAdd, Nat.reduceSub]
      refine zz_cV3 dX10_ring_28 lX10_101 rfl (os_259 hO) rfl rfl (Nat.le_of_ble_eq_true rfl) (Nat.le_of_ble_eq_true rfl) ?_
      refine sp_X10_anew d hO hj (fun I0 g1 g2 => ?_)
      try dsimp only [zz_s1, zz_s2, zz_kill, zz_ent, zz_fl, List.set_cons_zero, List.set_cons_succ, List.getElem?_cons_zero, List.getElem?_cons_succ, Option.toList_some, Option.toList_none, List.cons_append, List.nil_append, List.append_nil, List.length_cons, List.length_nil, List.replicate_succ, List.replicate_zero, Nat.reduceAdd, Nat.reduceSub]
      refine zz_iconst (v := 0) (by decide) dX10_ring_31 ?_
      refine zz_istore_n dX10_ring_32 (by decide) ?_
      try dsimp only [zz_s1, zz_s2, zz_kill, zz_ent, zz_fl, List.set_cons_zero, List.set_cons_succ, List.getElem?_cons_zero, List.getElem?_cons_succ, Option.toList_some, Option.toList_none, List.cons_append, List.nil_append, List.append_nil, List.length_cons, List.length_nil, List.replicate_succ, List.replicate_zero, Nat.reduceAdd, Nat.reduceSub]
      have loop : ∀ (r a : Nat) (Ix : zz_I), a + r = m → FM j I Ix → ML Ix j m 2 (I 265 j + 1) (re m a) (fun _ => 0) (fun _ _ => 0) → zz_G mX10_ring (d + 2) 0 33 [some (.ref 259), some (.int (nI j)), some (.int (nI m)), some (.int (nI a))] [] M Ix J Q := by
        intro r
        induction r with
        | zero =>
          intro a Ix ha hf hc
          have ea : a = m := by omega
          subst ea
          refine zz_iload_n rfl dX10_ring_33 ?_
          refine zz_iload_n rfl dX10_ring_34 ?_
          try dsimp only [zz_s1, zz_s2, zz_kill, zz_ent, zz_fl, List.set_cons_zero, List.set_cons_succ, List.getElem?_cons_zero, List.getElem?_cons_succ, Option.toList_some, Option.toList_none, List.cons_append, List.nil_append, List.append_nil, List.length_cons, List.length_nil, List.replicate_succ, List.replicate_zero, Nat.reduceAdd, Nat.reduceSub]
          refine zz_icmp_ge (tgt := 55) dX10_ring_35 (by decide) (fun h6 => ?_) (fun h6 => ?_)
          · refine zz_iload_n rfl dX10_ring_55 ?_
            refine zz_ireturn dX10_ring_56 rfl (by first | rfl | decide | assumption) ?_
            exact h1 j a hj hm1 hm rfl rfl Ix hf hc
          · exact absurd (nI_le (Nat.le_refl a) (by omega)) h6
        | succ r ih =>
          intro a Ix ha hf hc
          refine zz_iload_n rfl dX10_ring_33 ?_
          refine zz_iload_n rfl dX10_ring_34 ?_
          try dsimp only [zz_s1, zz_s2, zz_kill, zz_ent, zz_fl, List.set_cons_zero, List.set_cons_succ, List.getElem?_cons_zero, List.getElem?_cons_succ, Option.toList_some, Option.toList_none, List.cons_append, List.nil_append, List.append_nil, List.length_cons, List.length_nil, List.replicate_succ, List.replicate_zero, Nat.reduceAdd, Nat.reduceSub]
          refine zz_icmp_ge (tgt := 55) dX10_ring_35 (by decide) (fun h6 => ?_) (fun h6 => ?_)
          · exact absurd h6 (nI_ge (by omega) (by omega))
          · skip
            have hnx := nx_ne hm1 (show a < m by omega)
            refine zz_aload_n rfl dX10_ring_38 ?_
            refine zz_iload_n rfl dX10_ring_39 ?_
            refine zz_iload_n rfl dX10_ring_40 ?_
            refine zz_iload_n rfl dX10_ring_41 ?_
            refine zz_iconst (v := 1) (by decide) dX10_ring_42 ?_
            refine zz_iadd dX10_ring_43 ?_
            refine zz_iload_n rfl dX10_ring_44 ?_
            refine zz_irem (nI_ne0 (by omega) (by omega)) dX10_ring_45 ?_
            try dsimp only [zz_s1, zz_s2, zz_kill, zz_ent, zz_fl, List.set_cons_zero, List.set_cons_succ, List.getElem?_cons_zero, List.getElem?_cons_succ, Option.toList_some, Option.toList_none, List.cons_append, List.nil_append, List.append_nil, List.length_cons, List.length_nil, List.replicate_succ, List.replicate_zero, Nat.reduceAdd, Nat.reduceSub]
            rw [nI_1, show jv_rem (nI (a + 1)) (nI m) = nI ((a + 1) % m) from pk_rem (by omega) (by omega) (by omega), nxt_mod (by omega) (by omega)]
            refine zz_cV3 dX10_ring_46 lX10_115 rfl (os_259 hO) rfl rfl (Nat.le_of_ble_eq_true rfl) (Nat.le_of_ble_eq_true rfl) ?_
            refine sp_X10_join (d + 1) hO hj (show a < 24 by omega) (show nx m a < 24 by omega) hc (fun I1 k1 k2 k3 => ?_)
            try dsimp only [zz_s1, zz_s2, zz_kill, zz_ent, zz_fl, List.set_cons_zero, List.set_cons_succ, List.getElem?_cons_zero, List.getElem?_cons_succ, Option.toList_some, Option.toList_none, List.cons_append, List.nil_append, List.append_nil, List.length_cons, List.length_nil, List.replicate_succ, List.replicate_zero, Nat.reduceAdd, Nat.reduceSub]
            refine zz_iinc dX10_ring_49 rfl (congrArg (HAdd.hAdd _) (show Int32.ofInt 1 = 1 by decide)) (by decide) ?_
            refine zz_goto (tgt := 33) dX10_ring_52 (by decide) ?_
            try dsimp only [zz_s1, zz_s2, zz_kill, zz_ent, zz_fl, List.set_cons_zero, List.set_cons_succ, List.getElem?_cons_zero, List.getElem?_cons_succ, Option.toList_some, Option.toList_none, List.cons_append, List.nil_append, List.append_nil, List.length_cons, List.length_nil, List.replicate_succ, List.replicate_zero, Nat.reduceAdd, Nat.reduceSub]
            rw [nI_1]
            rw [re_jn] at k3
            exact ih (a + 1) I1 (by omega) (FM.tr hf (FM_260 k1 k2)) k3
      exact loop m 0 I0 (by omega) g1 (by
        have : re m 0 = fun _ _ => false := by funext x y; simp [re]
        rw [this]; exact g2)
    · skip
      refine zz_bipush (v := (-2)) (by decide) dX10_ring_21 ?_
      refine zz_ireturn dX10_ring_23 rfl (by first | rfl | decide | assumption) ?_
      exact h2 (fun q => hr2.f h3 q.2)
end PRing

