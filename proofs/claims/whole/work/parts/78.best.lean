/-! ===== the best rate: both sides ===== -/
def bfA (n : Nat) (E : Nat → Nat → Bool) (k : Nat) : Nat := al (tkB n E k) 64 (ltW (n ^ k))
/-- the best of the lengths 1 .. k: how many words, which length -/
def bf (n : Nat) (E : Nat → Nat → Bool) : Nat → Nat × Nat
  | 0 => (0, 0)
  | k + 1 => if (k = 0 ∨ 1 < n) ∧ n ^ (k + 1) ≤ 64 then (if (bf n E k).2 = 0 ∨ (bf n E k).1 ^ (k + 1) < bfA n E (k + 1) ^ (bf n E k).2 then (bfA n E (k + 1), k + 1) else bf n E k) else bf n E k
section Best
variable {n : Nat} {E : Nat → Nat → Bool}
theorem bfA_le {k : Nat} (h : n ^ k ≤ 64) : bfA n E k ≤ 64 := Nat.le_trans al_lt h
theorem bf_y {k : Nat} (h : (k = 0 ∨ 1 < n) ∧ n ^ (k + 1) ≤ 64) (h2 : (bf n E k).2 = 0 ∨ (bf n E k).1 ^ (k + 1) < bfA n E (k + 1) ^ (bf n E k).2) : bf n E (k + 1) = (bfA n E (k + 1), k + 1) := by
  show (if _ then _ else _) = _
  rw [if_pos h, if_pos h2]
theorem bf_n {k : Nat} (h : ¬ (((k = 0 ∨ 1 < n) ∧ n ^ (k + 1) ≤ 64) ∧ ((bf n E k).2 = 0 ∨ (bf n E k).1 ^ (k + 1) < bfA n E (k + 1) ^ (bf n E k).2))) : bf n E (k + 1) = bf n E k := by
  show (if _ then _ else _) = _
  by_cases c : (k = 0 ∨ 1 < n) ∧ n ^ (k + 1) ≤ 64
  · rw [if_pos c, if_neg (fun z => h ⟨c, z⟩)]
  · rw [if_neg c]
theorem bf_le : ∀ k, (bf n E k).1 ≤ 64 ∧ (bf n E k).2 ≤ k
  | 0 => ⟨Nat.zero_le _, Nat.le_refl _⟩
  | k + 1 => by
    have ih := bf_le k
    by_cases c : ((k = 0 ∨ 1 < n) ∧ n ^ (k + 1) ≤ 64) ∧ ((bf n E k).2 = 0 ∨ (bf n E k).1 ^ (k + 1) < bfA n E (k + 1) ^ (bf n E k).2)
    · rw [bf_y c.1 c.2]; exact ⟨bfA_le c.1.2, Nat.le_refl _⟩
    · rw [bf_n c]; exact ⟨ih.1, by omega⟩
theorem bf_pos (hn1 : 1 ≤ n) (hn : n ≤ 24) : ∀ k, 1 ≤ k → 1 ≤ (bf n E k).1 ∧ 1 ≤ (bf n E k).2
  | 0, h => by omega
  | k + 1, _ => by
    by_cases c : ((k = 0 ∨ 1 < n) ∧ n ^ (k + 1) ≤ 64) ∧ ((bf n E k).2 = 0 ∨ (bf n E k).1 ^ (k + 1) < bfA n E (k + 1) ^ (bf n E k).2)
    · rw [bf_y c.1 c.2]
      exact ⟨al_pos (Nat.pow_pos (by omega)) c.1.2, by omega⟩
    · rw [bf_n c]
      by_cases e : k = 0
      · subst e
        exact absurd ⟨⟨Or.inl rfl, by rw [show 0 + 1 = 1 from rfl, Nat.pow_one]; omega⟩, Or.inl rfl⟩ c
      · exact bf_pos hn1 hn k (by omega)
theorem bf_stop {i : Nat} : ∀ q, (∀ j, i ≤ j → j < i + q → ¬ ((j = 0 ∨ 1 < n) ∧ n ^ (j + 1) ≤ 64)) → bf n E (i + q) = bf n E i
  | 0, _ => rfl
  | q + 1, h => by
    have h1 := bf_n (n := n) (E := E) (k := i + q) (fun z => h (i + q) (by omega) (by omega) z.1)
    rw [show i + (q + 1) = i + q + 1 by omega, h1]
    exact bf_stop q (fun j h1 h2 => h j h1 (by omega))
theorem cmN_le (v w : Nat) : cmN v w ≤ 0 ↔ ¬ w < v := by
  unfold cmN
  by_cases h : v < w
  · rw [if_pos h]
    exact ⟨fun _ => by omega, fun _ => by decide⟩
  · rw [if_neg h]
    by_cases h2 : w < v
    · rw [if_pos h2]
      exact ⟨fun z => absurd z (by decide), fun z => absurd h2 z⟩
    · rw [if_neg h2]
      exact ⟨fun _ => h2, fun _ => by decide⟩
theorem cmN_gt (v w : Nat) : 0 < cmN v w ↔ w < v := by
  unfold cmN
  by_cases h : v < w
  · rw [if_pos h]
    exact ⟨fun z => absurd z (by decide), fun z => by omega⟩
  · rw [if_neg h]
    by_cases h2 : w < v
    · rw [if_pos h2]
      exact ⟨fun _ => h2, fun _ => by decide⟩
    · rw [if_neg h2]
      exact ⟨fun z => absurd z (by decide), fun z => absurd z h2⟩
end Best
section PBest
variable {M : zz_M} {I : zz_I} {J : zz_J} {Q : zz_Q}
theorem sp_X5_offer (d : Nat) (hO : OK M) {s k b t : Nat} (hs : s ≤ 1000) (hk : k ≤ 12) (ht : t ≤ 1000) (hb : b ≤ 12) (e2 : I 17 2 = nI b) (e3 : b = 0 ∨ I 17 3 = nI t) (h1 : (b = 0 ∨ t ^ k < s ^ b) → ∀ J' : zz_J, (∀ a, a ≠ 18 → a ≠ 19 → J' a = J a) → Q none M (zz_ui (zz_ui I 17 3 (nI s)) 17 2 (nI k)) J') (h2 : ¬ (b = 0 ∨ t ^ k < s ^ b) → ∀ J' : zz_J, (∀ a, a ≠ 18 → a ≠ 19 → J' a = J a) → Q none M I J') : zz_D mX5_offer (d + 2) [.ref 17, .int (nI s), .int (nI k)] M I J Q := by
  refine zz_D_of rfl (Nat.le_of_ble_eq_true rfl) ?_
  try dsimp only [zz_s1, zz_s2, zz_kill, zz_ent, zz_fl, List.set_cons_zero, List.set_cons_succ, List.getElem?_cons_zero, List.getElem?_cons_succ, Option.toList_some, Option.toList_none, List.cons_append, List.nil_append, List.append_nil, List.length_cons, List.length_nil, List.replicate_succ, List.replicate_zero, Nat.reduceAdd, Nat.reduceSub]
  refine zz_aload_n rfl dX5_offer_0 ?_
  refine zz_geti dX5_offer_1 fX5_16 rfl (os_17 hO) ?_
  try dsimp only [zz_s1, zz_s2, zz_kill, zz_ent, zz_fl, List.set_cons_zero, List.set_cons_succ, List.getElem?_cons_zero, List.getElem?_cons_succ, Option.toList_some, Option.toList_none, List.cons_append, List.nil_append, List.append_nil, List.length_cons, List.length_nil, List.replicate_succ, List.replicate_zero, Nat.reduceAdd, Nat.reduceSub]
  rw [e2]
  refine zz_if_eq (tgt := 24) dX5_offer_4 (by decide) (fun q1 => ?_) (fun q1 => ?_)
  · have b0 : b = 0 := (nI_eq (b := 0) (by omega) (by decide)).mp q1
    refine zz_aload_n rfl dX5_offer_24 ?_
    refine zz_iload_n rfl dX5_offer_25 ?_
    refine zz_puti dX5_offer_26 fX5_20 rfl (fun q h => by cases h; rfl) (os_17 hO) ?_
    refine zz_aload_n rfl dX5_offer_29 ?_
    refine zz_iload_n rfl dX5_offer_30 ?_
    refine zz_puti dX5_offer_31 fX5_16 rfl (fun q h => by cases h; rfl) (os_17 hO) ?_
    refine zz_return dX5_offer_34 rfl ?_
    exact h1 (Or.inl b0) J (fun _ _ _ => rfl)
  · skip
    have b0 : ¬ b = 0 := fun z => q1 (by rw [z]; rfl)
    have e3 : I 17 3 = nI t := e3.resolve_left b0
    refine zz_aload_n rfl dX5_offer_7 ?_
    refine zz_iload_n rfl dX5_offer_8 ?_
    refine zz_iload_n rfl dX5_offer_9 ?_
    refine zz_aload_n rfl dX5_offer_10 ?_
    refine zz_geti dX5_offer_11 fX5_20 rfl (os_17 hO) ?_
    refine zz_aload_n rfl dX5_offer_14 ?_
    refine zz_geti dX5_offer_15 fX5_16 rfl (os_17 hO) ?_
    try dsimp only [zz_s1, zz_s2, zz_kill, zz_ent, zz_fl, List.set_cons_zero, List.set_cons_succ, List.getElem?_cons_zero, List.getElem?_cons_succ, Option.toList_some, Option.toList_none, List.cons_append, List.nil_append, List.append_nil, List.length_cons, List.length_nil, List.replicate_succ, List.replicate_zero, Nat.reduceAdd, Nat.reduceSub]
    rw [e2, e3]
    refine zz_cV4 dX5_offer_18 lX5_23 rfl (os_17 hO) rfl rfl (Nat.le_of_ble_eq_true rfl) (Nat.le_of_ble_eq_true rfl) ?_
    refine sp_X5_hold d hO hs ht hk hb (fun J' hJ => ?_)
    try dsimp only [zz_s1, zz_s2, zz_kill, zz_ent, zz_fl, List.set_cons_zero, List.set_cons_succ, List.getElem?_cons_zero, List.getElem?_cons_succ, Option.toList_some, Option.toList_none, List.cons_append, List.nil_append, List.append_nil, List.length_cons, List.length_nil, List.replicate_succ, List.replicate_zero, Nat.reduceAdd, Nat.reduceSub]
    refine zz_if_le (tgt := 34) dX5_offer_21 (by decide) (fun q2 => ?_) (fun q2 => ?_)
    · refine zz_return dX5_offer_34 rfl ?_
      exact h2 (fun z => z.elim b0 (fun y => (cmN_le _ _).mp q2 y)) J' hJ
    · skip
      refine zz_aload_n rfl dX5_offer_24 ?_
      refine zz_iload_n rfl dX5_offer_25 ?_
      refine zz_puti dX5_offer_26 fX5_20 rfl (fun q h => by cases h; rfl) (os_17 hO) ?_
      refine zz_aload_n rfl dX5_offer_29 ?_
      refine zz_iload_n rfl dX5_offer_30 ?_
      refine zz_puti dX5_offer_31 fX5_16 rfl (fun q h => by cases h; rfl) (os_17 hO) ?_
      refine zz_return dX5_offer_34 rfl ?_
      refine h1 (Or.inr ?_) J' hJ
      exact Classical.byContradiction fun z => q2 ((cmN_le _ _).mpr z)
theorem sp_findBest (d : Nat) (hO : OK M) {l n : Nat} {kd ag : Int32} {E : Nat → Nat → Bool} {sg : Nat → Int32} {rw : Nat → Nat → Int32} (hl : l < 8) (hn1 : 1 ≤ n) (hn : n ≤ 24) (hE : wfE n E) (hc : CL I l n kd ag E sg rw) (hQ : ∀ (I' : zz_I) (J' : zz_J), (∀ c, c ≠ 8 → c ≠ 17 → I' c = I c) → (∀ c, c ≠ 8 → c ≠ 9 → c ≠ 18 → c ≠ 19 → J' c = J c) → I' 17 2 = nI (bf n E 6).2 → I' 17 3 = nI (bf n E 6).1 → Q none M I' J') : zz_D mX9_findBest (d + 70) [.ref 1, .ref (LN l)] M I J Q := by
  have hL8 : 26 < LN l := by unfold LN; omega
  refine zz_D_of rfl (Nat.le_of_ble_eq_true rfl) ?_
  try dsimp only [zz_s1, zz_s2, zz_kill, zz_ent, zz_fl, List.set_cons_zero, List.set_cons_succ, List.getElem?_cons_zero, List.getElem?_cons_succ, Option.toList_some, Option.toList_none, List.cons_append, List.nil_append, List.append_nil, List.length_cons, List.length_nil, List.replicate_succ, List.replicate_zero, Nat.reduceAdd, Nat.reduceSub]
  refine zz_aload_n rfl dX9_findBest_0 ?_
  refine zz_getr dX9_findBest_1 fX9_57 (fun _ _ _ _ => rfl) (os_1 hO) (or_1_7 hO) ?_
  refine zz_iconst (v := 0) (by decide) dX9_findBest_4 ?_
  refine zz_puti dX9_findBest_5 fX9_247 rfl (fun q h => by cases h; rfl) (os_17 hO) ?_
  refine zz_iconst (v := 1) (by decide) dX9_findBest_8 ?_
  refine zz_istore_n dX9_findBest_9 (by decide) ?_
  try dsimp only [zz_s1, zz_s2, zz_kill, zz_ent, zz_fl, List.set_cons_zero, List.set_cons_succ, List.getElem?_cons_zero, List.getElem?_cons_succ, Option.toList_some, Option.toList_none, List.cons_append, List.nil_append, List.append_nil, List.length_cons, List.length_nil, List.replicate_succ, List.replicate_zero, Nat.reduceAdd, Nat.reduceSub]
  have loop : ∀ (q i : Nat) (Ix : zz_I) (Jx : zz_J) (z3 : Option Value), i + q = 6 → (∀ c, c ≠ 8 → c ≠ 17 → Ix c = I c) → (∀ c, c ≠ 8 → c ≠ 9 → c ≠ 18 → c ≠ 19 → Jx c = J c) → Ix 17 2 = nI (bf n E i).2 → ((bf n E i).2 = 0 ∨ Ix 17 3 = nI (bf n E i).1) → zz_G mX9_findBest (d + 70) 0 10 [some (.ref 1), some (.ref (LN l)), some (.int (nI (i + 1))), z3] [] M Ix Jx Q := by
    intro q
    induction q with
    | zero =>
      intro i Ix Jx z3 hi f1 f2 f3 f4
      have e : i = 6 := by omega
      subst e
      refine zz_iload_n rfl dX9_findBest_10 ?_
      refine zz_bipush (v := 6) (by decide) dX9_findBest_11 ?_
      try dsimp only [zz_s1, zz_s2, zz_kill, zz_ent, zz_fl, List.set_cons_zero, List.set_cons_succ, List.getElem?_cons_zero, List.getElem?_cons_succ, Option.toList_some, Option.toList_none, List.cons_append, List.nil_append, List.append_nil, List.length_cons, List.length_nil, List.replicate_succ, List.replicate_zero, Nat.reduceAdd, Nat.reduceSub]
      refine zz_icmp_gt (tgt := 82) dX9_findBest_13 (by decide) (fun q1 => ?_) (fun q1 => ?_)
      · refine zz_return dX9_findBest_82 rfl ?_
        refine hQ Ix Jx f1 f2 f3 (f4.resolve_left (fun z => ?_))
        have := (bf_pos (E := E) hn1 hn 6 (by decide)).2
        omega
      · exact absurd (nI_lt (a := 6) (b := 7) (by decide) (by decide)) q1
    | succ q ih =>
      intro i Ix Jx z3 hi f1 f2 f3 f4
      have hcx : CL Ix l n kd ag E sg rw := CL_of (fun c h1 h2 => f1 c (by omega) (by omega)) hl hc
      have hbl := bf_le (n := n) (E := E) i
      refine zz_iload_n rfl dX9_findBest_10 ?_
      refine zz_bipush (v := 6) (by decide) dX9_findBest_11 ?_
      try dsimp only [zz_s1, zz_s2, zz_kill, zz_ent, zz_fl, List.set_cons_zero, List.set_cons_succ, List.getElem?_cons_zero, List.getElem?_cons_succ, Option.toList_some, Option.toList_none, List.cons_append, List.nil_append, List.append_nil, List.length_cons, List.length_nil, List.replicate_succ, List.replicate_zero, Nat.reduceAdd, Nat.reduceSub]
      refine zz_icmp_gt (tgt := 82) dX9_findBest_13 (by decide) (fun q1 => ?_) (fun q1 => ?_)
      · exact absurd q1 (Int32.not_lt.mpr (nI_le (b := 6) (show i + 1 ≤ 6 by omega) (by decide)))
      have no : ∀ (z3 : Option Value), ¬ ((i = 0 ∨ 1 < n) ∧ n ^ (i + 1) ≤ 64) → zz_G mX9_findBest (d + 70) 0 76 [some (.ref 1), some (.ref (LN l)), some (.int (nI (i + 1))), z3] [] M Ix Jx Q := by
        intro z3 hno
        refine zz_iinc dX9_findBest_76 rfl (congrArg (HAdd.hAdd _) (show Int32.ofInt 1 = 1 by decide)) (by decide) ?_
        refine zz_goto (tgt := 10) dX9_findBest_79 (by decide) ?_
        try dsimp only [zz_s1, zz_s2, zz_kill, zz_ent, zz_fl, List.set_cons_zero, List.set_cons_succ, List.getElem?_cons_zero, List.getElem?_cons_succ, Option.toList_some, Option.toList_none, List.cons_append, List.nil_append, List.append_nil, List.length_cons, List.length_nil, List.replicate_succ, List.replicate_zero, Nat.reduceAdd, Nat.reduceSub]
        rw [nI_1]
        have e := bf_n (n := n) (E := E) (k := i) (fun z => hno z.1)
        exact ih (i + 1) Ix Jx _ (by omega) f1 f2 (by rw [e]; exact f3) (by rw [e]; exact f4)
      have yes : (i = 0 ∨ 1 < n) → zz_G mX9_findBest (d + 70) 0 34 [some (.ref 1), some (.ref (LN l)), some (.int (nI (i + 1))), z3] [.int 1] M Ix Jx Q := by
        intro hw
        refine zz_istore_n dX9_findBest_34 (by decide) ?_
        refine zz_iload_n rfl dX9_findBest_35 ?_
        try dsimp only [zz_s1, zz_s2, zz_kill, zz_ent, zz_fl, List.set_cons_zero, List.set_cons_succ, List.getElem?_cons_zero, List.getElem?_cons_succ, Option.toList_some, Option.toList_none, List.cons_append, List.nil_append, List.append_nil, List.length_cons, List.length_nil, List.replicate_succ, List.replicate_zero, Nat.reduceAdd, Nat.reduceSub]
        refine zz_if_eq (tgt := 76) dX9_findBest_36 (by decide) (fun q2 => ?_) (fun q2 => ?_)
        · exact absurd q2 (by decide)
        refine zz_aload_n rfl dX9_findBest_39 ?_
        refine zz_geti dX9_findBest_40 fX9_144 rfl (ol_obj hO hl) ?_
        refine zz_iload_n rfl dX9_findBest_43 ?_
        try dsimp only [zz_s1, zz_s2, zz_kill, zz_ent, zz_fl, List.set_cons_zero, List.set_cons_succ, List.getElem?_cons_zero, List.getElem?_cons_succ, Option.toList_some, Option.toList_none, List.cons_append, List.nil_append, List.append_nil, List.length_cons, List.length_nil, List.replicate_succ, List.replicate_zero, Nat.reduceAdd, Nat.reduceSub]
        rw [hcx.2.1]
        refine zz_cS2 dX9_findBest_44 lX9_172 rfl (Nat.le_of_ble_eq_true rfl) (Nat.le_of_ble_eq_true rfl) ?_
        refine sp_wordsInAll (d + 69) hn1 hn (show i + 1 ≤ 6 by omega) ?_
        try dsimp only [zz_s1, zz_s2, zz_kill, zz_ent, zz_fl, List.set_cons_zero, List.set_cons_succ, List.getElem?_cons_zero, List.getElem?_cons_succ, Option.toList_some, Option.toList_none, List.cons_append, List.nil_append, List.append_nil, List.length_cons, List.length_nil, List.replicate_succ, List.replicate_zero, Nat.reduceAdd, Nat.reduceSub]
        have hpw := pow_le6 hn (show i + 1 ≤ 6 by omega)
        refine zz_bipush (v := 64) (by decide) dX9_findBest_47 ?_
        try dsimp only [zz_s1, zz_s2, zz_kill, zz_ent, zz_fl, List.set_cons_zero, List.set_cons_succ, List.getElem?_cons_zero, List.getElem?_cons_succ, Option.toList_some, Option.toList_none, List.cons_append, List.nil_append, List.append_nil, List.length_cons, List.length_nil, List.replicate_succ, List.replicate_zero, Nat.reduceAdd, Nat.reduceSub]
        refine zz_icmp_gt (tgt := 76) dX9_findBest_49 (by decide) (fun q3 => ?_) (fun q3 => ?_)
        · have h64 : 64 < n ^ (i + 1) := (nI_ltI (a := 64) (by decide) (by omega)).mp q3
          exact no _ (fun z => by omega)
        have h64 : n ^ (i + 1) ≤ 64 := Nat.le_of_not_lt fun z => q3 (nI_lt (a := 64) z (by omega))
        refine zz_aload_n rfl dX9_findBest_52 ?_
        refine zz_getr dX9_findBest_53 fX9_36 (fun _ _ _ _ => rfl) (os_1 hO) (or_1_4 hO) ?_
        refine zz_aload_n rfl dX9_findBest_56 ?_
        refine zz_iload_n rfl dX9_findBest_57 ?_
        try dsimp only [zz_s1, zz_s2, zz_kill, zz_ent, zz_fl, List.set_cons_zero, List.set_cons_succ, List.getElem?_cons_zero, List.getElem?_cons_succ, Option.toList_some, Option.toList_none, List.cons_append, List.nil_append, List.append_nil, List.length_cons, List.length_nil, List.replicate_succ, List.replicate_zero, Nat.reduceAdd, Nat.reduceSub]
        refine zz_cV2 dX9_findBest_58 lX9_185 rfl (os_8 hO) rfl rfl (Nat.le_of_ble_eq_true rfl) (Nat.le_of_ble_eq_true rfl) ?_
        refine sp_X1_lay (d + 66) hO hl hn1 hn hcx (show i + 1 ≤ 6 by omega) h64 (fun I1 J1 a1 a2 a3 a4 a5 => ?_)
        try dsimp only [zz_s1, zz_s2, zz_kill, zz_ent, zz_fl, List.set_cons_zero, List.set_cons_succ, List.getElem?_cons_zero, List.getElem?_cons_succ, Option.toList_some, Option.toList_none, List.cons_append, List.nil_append, List.append_nil, List.length_cons, List.length_nil, List.replicate_succ, List.replicate_zero, Nat.reduceAdd, Nat.reduceSub]
        refine zz_aload_n rfl dX9_findBest_61 ?_
        refine zz_getr dX9_findBest_62 fX9_57 (fun _ _ _ _ => rfl) (os_1 hO) (or_1_7 hO) ?_
        refine zz_aload_n rfl dX9_findBest_65 ?_
        refine zz_getr dX9_findBest_66 fX9_36 (fun _ _ _ _ => rfl) (os_1 hO) (or_1_4 hO) ?_
        try dsimp only [zz_s1, zz_s2, zz_kill, zz_ent, zz_fl, List.set_cons_zero, List.set_cons_succ, List.getElem?_cons_zero, List.getElem?_cons_succ, Option.toList_some, Option.toList_none, List.cons_append, List.nil_append, List.append_nil, List.length_cons, List.length_nil, List.replicate_succ, List.replicate_zero, Nat.reduceAdd, Nat.reduceSub]
        refine zz_cV0 dX9_findBest_69 lX9_189 rfl (os_8 hO) rfl rfl (Nat.le_of_ble_eq_true rfl) (Nat.le_of_ble_eq_true rfl) ?_
        refine sp_findLargest d hO h64 (tkB_sy (n := n) hE (i + 1)) (tkB_rf (i + 1)) a5.nb a4 (fun I2 J2 b1 b2 b3 b4 b5 => ?_)
        try dsimp only [zz_s1, zz_s2, zz_kill, zz_ent, zz_fl, List.set_cons_zero, List.set_cons_succ, List.getElem?_cons_zero, List.getElem?_cons_succ, Option.toList_some, Option.toList_none, List.cons_append, List.nil_append, List.append_nil, List.length_cons, List.length_nil, List.replicate_succ, List.replicate_zero, Nat.reduceAdd, Nat.reduceSub]
        refine zz_iload_n rfl dX9_findBest_72 ?_
        try dsimp only [zz_s1, zz_s2, zz_kill, zz_ent, zz_fl, List.set_cons_zero, List.set_cons_succ, List.getElem?_cons_zero, List.getElem?_cons_succ, Option.toList_some, Option.toList_none, List.cons_append, List.nil_append, List.append_nil, List.length_cons, List.length_nil, List.replicate_succ, List.replicate_zero, Nat.reduceAdd, Nat.reduceSub]
        have e2 : ∀ c, c ≠ 8 → c ≠ 17 → I2 c = I c := fun c c1 c2 => by rw [b1 c c1, a1 c c1]; exact f1 c c1 c2
        have e15 : I2 17 = Ix 17 := by rw [b1 17 (by decide), a1 17 (by decide)]
        have eJ : ∀ c, c ≠ 8 → c ≠ 9 → c ≠ 18 → c ≠ 19 → J2 c = J c := fun c c1 c2 c3 c4 => by rw [b3 c c1, a3 c c2]; exact f2 c c1 c2 c3 c4
        have hA := bfA_le (n := n) (E := E) (k := i + 1) h64
        refine zz_cV2 dX9_findBest_73 lX9_292 rfl (os_17 hO) rfl rfl (Nat.le_of_ble_eq_true rfl) (Nat.le_of_ble_eq_true rfl) ?_
        refine sp_X5_offer (s := bfA n E (i + 1)) (d + 67) hO (by omega) (show i + 1 ≤ 12 by omega) (t := (bf n E i).1) (by omega) (b := (bf n E i).2) (by omega) (by rw [e15]; exact f3) (by rw [e15]; exact f4) (fun hy J3 k1 => ?_) (fun hx J3 k1 => ?_)
        try dsimp only [zz_s1, zz_s2, zz_kill, zz_ent, zz_fl, List.set_cons_zero, List.set_cons_succ, List.getElem?_cons_zero, List.getElem?_cons_succ, Option.toList_some, Option.toList_none, List.cons_append, List.nil_append, List.append_nil, List.length_cons, List.length_nil, List.replicate_succ, List.replicate_zero, Nat.reduceAdd, Nat.reduceSub]
        · have e := bf_y (n := n) (E := E) (k := i) ⟨hw, h64⟩ hy
          refine zz_iinc dX9_findBest_76 rfl (congrArg (HAdd.hAdd _) (show Int32.ofInt 1 = 1 by decide)) (by decide) ?_
          refine zz_goto (tgt := 10) dX9_findBest_79 (by decide) ?_
          try dsimp only [zz_s1, zz_s2, zz_kill, zz_ent, zz_fl, List.set_cons_zero, List.set_cons_succ, List.getElem?_cons_zero, List.getElem?_cons_succ, Option.toList_some, Option.toList_none, List.cons_append, List.nil_append, List.append_nil, List.length_cons, List.length_nil, List.replicate_succ, List.replicate_zero, Nat.reduceAdd, Nat.reduceSub]
          rw [nI_1]
          refine ih (i + 1) _ J3 _ (by omega) (fun c c1 c2 => ?_) (fun c c1 c2 c3 c4 => by rw [k1 c c3 c4]; exact eJ c c1 c2 c3 c4) ?_ (Or.inr ?_)
          · rw [zz_ui_ne _ _ _ c2, zz_ui_ne _ _ _ c2]; exact e2 c c1 c2
          · rw [zz_ui_at, pk_us, e]
          · rw [zz_ui_at, pk_un (by decide), zz_ui_at, pk_us, e]
        · have e := bf_n (n := n) (E := E) (k := i) (fun z => hx z.2)
          try dsimp only [zz_s1, zz_s2, zz_kill, zz_ent, zz_fl, List.set_cons_zero, List.set_cons_succ, List.getElem?_cons_zero, List.getElem?_cons_succ, Option.toList_some, Option.toList_none, List.cons_append, List.nil_append, List.append_nil, List.length_cons, List.length_nil, List.replicate_succ, List.replicate_zero, Nat.reduceAdd, Nat.reduceSub]
          refine zz_iinc dX9_findBest_76 rfl (congrArg (HAdd.hAdd _) (show Int32.ofInt 1 = 1 by decide)) (by decide) ?_
          refine zz_goto (tgt := 10) dX9_findBest_79 (by decide) ?_
          try dsimp only [zz_s1, zz_s2, zz_kill, zz_ent, zz_fl, List.set_cons_zero, List.set_cons_succ, List.getElem?_cons_zero, List.getElem?_cons_succ, Option.toList_some, Option.toList_none, List.cons_append, List.nil_append, List.append_nil, List.length_cons, List.length_nil, List.replicate_succ, List.replicate_zero, Nat.reduceAdd, Nat.reduceSub]
          rw [nI_1]
          exact ih (i + 1) I2 J3 _ (by omega) e2 (fun c c1 c2 c3 c4 => by rw [k1 c c3 c4]; exact eJ c c1 c2 c3 c4) (by rw [e, e15]; exact f3) (by rw [e, e15]; exact f4)
      refine zz_iload_n rfl dX9_findBest_16 ?_
      refine zz_iconst (v := 1) (by decide) dX9_findBest_17 ?_
      try dsimp only [zz_s1, zz_s2, zz_kill, zz_ent, zz_fl, List.set_cons_zero, List.set_cons_succ, List.getElem?_cons_zero, List.getElem?_cons_succ, Option.toList_some, Option.toList_none, List.cons_append, List.nil_append, List.append_nil, List.length_cons, List.length_nil, List.replicate_succ, List.replicate_zero, Nat.reduceAdd, Nat.reduceSub]
      refine zz_icmp_eq (tgt := 29) dX9_findBest_18 (by decide) (fun q2 => ?_) (fun q2 => ?_)
      · have i0 : i = 0 := by
          have := (nI_eq (b := 1) (show i + 1 < 2 ^ 31 by omega) (by decide)).mp q2
          omega
        refine zz_iconst (v := 1) (by decide) dX9_findBest_29 ?_
        refine zz_goto (tgt := 34) dX9_findBest_30 (by decide) ?_
        try dsimp only [zz_s1, zz_s2, zz_kill, zz_ent, zz_fl, List.set_cons_zero, List.set_cons_succ, List.getElem?_cons_zero, List.getElem?_cons_succ, Option.toList_some, Option.toList_none, List.cons_append, List.nil_append, List.append_nil, List.length_cons, List.length_nil, List.replicate_succ, List.replicate_zero, Nat.reduceAdd, Nat.reduceSub]
        exact yes (Or.inl i0)
      have i0 : ¬ i = 0 := fun z => q2 (by rw [z]; rfl)
      refine zz_aload_n rfl dX9_findBest_21 ?_
      refine zz_geti dX9_findBest_22 fX9_144 rfl (ol_obj hO hl) ?_
      refine zz_iconst (v := 1) (by decide) dX9_findBest_25 ?_
      try dsimp only [zz_s1, zz_s2, zz_kill, zz_ent, zz_fl, List.set_cons_zero, List.set_cons_succ, List.getElem?_cons_zero, List.getElem?_cons_succ, Option.toList_some, Option.toList_none, List.cons_append, List.nil_append, List.append_nil, List.length_cons, List.length_nil, List.replicate_succ, List.replicate_zero, Nat.reduceAdd, Nat.reduceSub]
      rw [hcx.2.1]
      refine zz_icmp_le (tgt := 33) dX9_findBest_26 (by decide) (fun q3 => ?_) (fun q3 => ?_)
      · have := (nI_leI (b := 1) (by omega) (by decide)).mp q3
        refine zz_iconst (v := 0) (by decide) dX9_findBest_33 ?_
        refine zz_istore_n dX9_findBest_34 (by decide) ?_
        refine zz_iload_n rfl dX9_findBest_35 ?_
        try dsimp only [zz_s1, zz_s2, zz_kill, zz_ent, zz_fl, List.set_cons_zero, List.set_cons_succ, List.getElem?_cons_zero, List.getElem?_cons_succ, Option.toList_some, Option.toList_none, List.cons_append, List.nil_append, List.append_nil, List.length_cons, List.length_nil, List.replicate_succ, List.replicate_zero, Nat.reduceAdd, Nat.reduceSub]
        refine zz_if_eq (tgt := 76) dX9_findBest_36 (by decide) (fun q4 => ?_) (fun q4 => ?_)
        · exact no _ (fun z => by omega)
        · exact absurd rfl q4
      · skip
        have : ¬ n ≤ 1 := fun z => q3 (nI_le (b := 1) z (by decide))
        refine zz_iconst (v := 1) (by decide) dX9_findBest_29 ?_
        refine zz_goto (tgt := 34) dX9_findBest_30 (by decide) ?_
        try dsimp only [zz_s1, zz_s2, zz_kill, zz_ent, zz_fl, List.set_cons_zero, List.set_cons_succ, List.getElem?_cons_zero, List.getElem?_cons_succ, Option.toList_some, Option.toList_none, List.cons_append, List.nil_append, List.append_nil, List.length_cons, List.length_nil, List.replicate_succ, List.replicate_zero, Nat.reduceAdd, Nat.reduceSub]
        exact yes (Or.inr (by omega))
  refine loop 6 0 _ J _ (by omega) (fun c c1 c2 => ?_) (fun _ _ _ _ _ => rfl) ?_ (Or.inl rfl)
  · rw [zz_ui_ne _ _ _ c2]
  · rw [zz_ui_at, pk_us]; rfl
theorem sp_X9_best (d : Nat) (hO : OK M) {l : Int32} {n : Nat → Nat} {kd ag : Nat → Int32} {E : Nat → Nat → Nat → Bool} {sg : Nat → Nat → Int32} {rw : Nat → Nat → Nat → Int32} (hn : ∀ j, j < 8 → 1 ≤ n j ∧ n j ≤ 24) (hE : ∀ j, j < 8 → wfE (n j) (E j)) (hC : ∀ j, j < 8 → CL I j (n j) (kd j) (ag j) (E j) (sg j) (rw j))
    (h1 : ∀ j, j < 8 → l = nI j → ∀ (I' : zz_I) (J' : zz_J), (∀ c, c ≠ 8 → c ≠ 17 → I' c = I c) → (∀ c, c ≠ 8 → c ≠ 9 → c ≠ 18 → c ≠ 19 → J' c = J c) → Q (some (.int (nI (bf (n j) (E j) 6).2))) M I' J')
    (h2 : ¬ vp_in l 8 → Q (some (.int (-2))) M I J) : zz_D mX9_best (d + 71) [.ref 1, .int l] M I J Q := by
  refine zz_D_of rfl (Nat.le_of_ble_eq_true rfl) ?_
  try dsimp only [zz_s1, zz_s2, zz_kill, zz_ent, zz_fl, List.set_cons_zero, List.set_cons_succ, List.getElem?_cons_zero, List.getElem?_cons_succ, Option.toList_some, Option.toList_none, List.cons_append, List.nil_append, List.append_nil, List.length_cons, List.length_nil, List.replicate_succ, List.replicate_zero, Nat.reduceAdd, Nat.reduceSub]
  refine zz_aload_n rfl dX9_best_0 ?_
  refine zz_iload_n rfl dX9_best_1 ?_
  try dsimp only [zz_s1, zz_s2, zz_kill, zz_ent, zz_fl, List.set_cons_zero, List.set_cons_succ, List.getElem?_cons_zero, List.getElem?_cons_succ, Option.toList_some, Option.toList_none, List.cons_append, List.nil_append, List.append_nil, List.length_cons, List.length_nil, List.replicate_succ, List.replicate_zero, Nat.reduceAdd, Nat.reduceSub]
  refine zz_cV1 dX9_best_2 lX9_100 rfl (os_1 hO) rfl rfl (Nat.le_of_ble_eq_true rfl) (Nat.le_of_ble_eq_true rfl) ?_
  refine sp_lineAt (d + 70) hO (fun j hj e => ?_) (fun hv => ?_)
  try dsimp only [zz_s1, zz_s2, zz_kill, zz_ent, zz_fl, List.set_cons_zero, List.set_cons_succ, List.getElem?_cons_zero, List.getElem?_cons_succ, Option.toList_some, Option.toList_none, List.cons_append, List.nil_append, List.append_nil, List.length_cons, List.length_nil, List.replicate_succ, List.replicate_zero, Nat.reduceAdd, Nat.reduceSub]
  · skip
    refine zz_astore_n dX9_best_5 (by decide) ?_
    refine zz_aload_n rfl dX9_best_6 ?_
    try dsimp only [zz_s1, zz_s2, zz_kill, zz_ent, zz_fl, List.set_cons_zero, List.set_cons_succ, List.getElem?_cons_zero, List.getElem?_cons_succ, Option.toList_some, Option.toList_none, List.cons_append, List.nil_append, List.append_nil, List.length_cons, List.length_nil, List.replicate_succ, List.replicate_zero, Nat.reduceAdd, Nat.reduceSub]
    refine zz_ifnonnull (tgt := 13) dX9_best_7 (by decide) ?_
    refine zz_aload_n rfl dX9_best_13 ?_
    refine zz_aload_n rfl dX9_best_14 ?_
    try dsimp only [zz_s1, zz_s2, zz_kill, zz_ent, zz_fl, List.set_cons_zero, List.set_cons_succ, List.getElem?_cons_zero, List.getElem?_cons_succ, Option.toList_some, Option.toList_none, List.cons_append, List.nil_append, List.append_nil, List.length_cons, List.length_nil, List.replicate_succ, List.replicate_zero, Nat.reduceAdd, Nat.reduceSub]
    refine zz_cV1 dX9_best_15 lX9_243 rfl (os_1 hO) rfl rfl (Nat.le_of_ble_eq_true rfl) (Nat.le_of_ble_eq_true rfl) ?_
    refine sp_findBest d hO hj (hn j hj).1 (hn j hj).2 (hE j hj) (hC j hj) (fun I1 J1 a1 a2 a3 a4 => ?_)
    try dsimp only [zz_s1, zz_s2, zz_kill, zz_ent, zz_fl, List.set_cons_zero, List.set_cons_succ, List.getElem?_cons_zero, List.getElem?_cons_succ, Option.toList_some, Option.toList_none, List.cons_append, List.nil_append, List.append_nil, List.length_cons, List.length_nil, List.replicate_succ, List.replicate_zero, Nat.reduceAdd, Nat.reduceSub]
    refine zz_aload_n rfl dX9_best_18 ?_
    refine zz_getr dX9_best_19 fX9_57 (fun _ _ _ _ => rfl) (os_1 hO) (or_1_7 hO) ?_
    refine zz_geti dX9_best_22 fX9_247 rfl (os_17 hO) ?_
    refine zz_ireturn dX9_best_25 rfl (by first | rfl | decide | assumption) ?_
    rw [a3]
    exact h1 j hj e I1 J1 a1 a2
  · try dsimp only [zz_s1, zz_s2, zz_kill, zz_ent, zz_fl, List.set_cons_zero, List.set_cons_succ, List.getElem?_cons_zero, List.getElem?_cons_succ, Option.toList_some, Option.toList_none, List.cons_append, List.nil_append, List.append_nil, List.length_cons, List.length_nil, List.replicate_succ, List.replicate_zero, Nat.reduceAdd, Nat.reduceSub]
    refine zz_nstore_n dX9_best_5 (by decide) ?_
    refine zz_nload_n rfl dX9_best_6 ?_
    try dsimp only [zz_s1, zz_s2, zz_kill, zz_ent, zz_fl, List.set_cons_zero, List.set_cons_succ, List.getElem?_cons_zero, List.getElem?_cons_succ, Option.toList_some, Option.toList_none, List.cons_append, List.nil_append, List.append_nil, List.length_cons, List.length_nil, List.replicate_succ, List.replicate_zero, Nat.reduceAdd, Nat.reduceSub]
    refine zz_ifnonnullN dX9_best_7 ?_
    try dsimp only [zz_s1, zz_s2, zz_kill, zz_ent, zz_fl, List.set_cons_zero, List.set_cons_succ, List.getElem?_cons_zero, List.getElem?_cons_succ, Option.toList_some, Option.toList_none, List.cons_append, List.nil_append, List.append_nil, List.length_cons, List.length_nil, List.replicate_succ, List.replicate_zero, Nat.reduceAdd, Nat.reduceSub]
    refine zz_bipush (v := (-2)) (by decide) dX9_best_10 ?_
    refine zz_ireturn dX9_best_12 rfl (by first | rfl | decide | assumption) ?_
    exact h2 hv
theorem sp_bestOf (d : Nat) (hO : OK M) {l n : Nat} {kd ag : Int32} {E : Nat → Nat → Bool} {sg : Nat → Int32} {rw : Nat → Nat → Int32} (hl : l < 8) (hn1 : 1 ≤ n) (hn : n ≤ 24) (hE : wfE n E) (hc : ML I l n kd ag E sg rw) (hQ : ∀ (I' : zz_I) (J' : zz_J), (∀ c, c ≠ 259 → I' c = I c) → (∀ i, i ≠ 13 → i ≠ 28 → I' 259 i = I 259 i) → (∀ c, c ≠ 269 → c ≠ 274 → c ≠ 275 → J' c = J c) → I' 259 28 = nI (bf n E 6).1 → Q (some (.int (nI (bf n E 6).2))) M I' J') : zz_D mX10_bestOf (d + 68) [.ref 259, .int (nI l)] M I J Q := by
  refine zz_D_of rfl (Nat.le_of_ble_eq_true rfl) ?_
  try dsimp only [zz_s1, zz_s2, zz_kill, zz_ent, zz_fl, List.set_cons_zero, List.set_cons_succ, List.getElem?_cons_zero, List.getElem?_cons_succ, Option.toList_some, Option.toList_none, List.cons_append, List.nil_append, List.append_nil, List.length_cons, List.length_nil, List.replicate_succ, List.replicate_zero, Nat.reduceAdd, Nat.reduceSub]
  refine zz_iconst (v := (-1)) (by decide) dX10_bestOf_0 ?_
  refine zz_istore_n dX10_bestOf_1 (by decide) ?_
  refine zz_iconst (v := 1) (by decide) dX10_bestOf_2 ?_
  refine zz_istore_n dX10_bestOf_3 (by decide) ?_
  try dsimp only [zz_s1, zz_s2, zz_kill, zz_ent, zz_fl, List.set_cons_zero, List.set_cons_succ, List.getElem?_cons_zero, List.getElem?_cons_succ, Option.toList_some, Option.toList_none, List.cons_append, List.nil_append, List.append_nil, List.length_cons, List.length_nil, List.replicate_succ, List.replicate_zero, Nat.reduceAdd, Nat.reduceSub]
  have loop : ∀ (q i : Nat) (Ix : zz_I) (Jx : zz_J) (b : Int32) (z4 : Option Value), i + q = 6 → (∀ c, c ≠ 259 → Ix c = I c) → (∀ j, j ≠ 13 → j ≠ 28 → Ix 259 j = I 259 j) → (∀ c, c ≠ 269 → c ≠ 274 → c ≠ 275 → Jx c = J c) → ((i = 0 ∧ b = -1) ∨ (1 ≤ i ∧ b = nI (bf n E i).2 ∧ Ix 259 28 = nI (bf n E i).1)) → zz_G mX10_bestOf (d + 68) 0 4 [some (.ref 259), some (.int (nI l)), some (.int b), some (.int (nI (i + 1))), z4] [] M Ix Jx Q := by
    intro q
    induction q with
    | zero =>
      intro i Ix Jx b z4 hi f1 f2 f3 f4
      have e : i = 6 := by omega
      subst e
      obtain ⟨-, f5, f6⟩ := f4.resolve_left (fun z => by omega)
      subst f5
      have fin : zz_G mX10_bestOf (d + 68) 0 85 [some (.ref 259), some (.int (nI l)), some (.int (nI (bf n E 6).2)), some (.int (nI (6 + 1))), z4] [] M Ix Jx Q := by
        refine zz_iload_n rfl dX10_bestOf_85 ?_
        refine zz_ireturn dX10_bestOf_86 rfl (by first | rfl | decide | assumption) ?_
        exact hQ Ix Jx f1 f2 f3 f6
      refine zz_iload_n rfl dX10_bestOf_4 ?_
      refine zz_aload_n rfl dX10_bestOf_5 ?_
      refine zz_getr dX10_bestOf_6 fX10_9 (fun _ _ _ _ => rfl) (os_259 hO) (or_259_0 hO) ?_
      refine zz_iload_n rfl dX10_bestOf_9 ?_
      refine zz_iald dX10_bestOf_10 (os_260 hO) (vp_in_nI hl (by decide)) ?_
      refine zz_iconst (v := 1) (by decide) dX10_bestOf_11 ?_
      try dsimp only [zz_s1, zz_s2, zz_kill, zz_ent, zz_fl, List.set_cons_zero, List.set_cons_succ, List.getElem?_cons_zero, List.getElem?_cons_succ, Option.toList_some, Option.toList_none, List.cons_append, List.nil_append, List.append_nil, List.length_cons, List.length_nil, List.replicate_succ, List.replicate_zero, Nat.reduceAdd, Nat.reduceSub]
      rw [nI_clamp (show l < 2 ^ 31 by omega), f1 260 (by decide), hc.2.1]
      refine zz_icmp_ne (tgt := 19) dX10_bestOf_12 (by decide) (fun q1 => ?_) (fun q1 => ?_)
      · refine zz_bipush (v := 6) (by decide) dX10_bestOf_19 ?_
        try dsimp only [zz_s1, zz_s2, zz_kill, zz_ent, zz_fl, List.set_cons_zero, List.set_cons_succ, List.getElem?_cons_zero, List.getElem?_cons_succ, Option.toList_some, Option.toList_none, List.cons_append, List.nil_append, List.append_nil, List.length_cons, List.length_nil, List.replicate_succ, List.replicate_zero, Nat.reduceAdd, Nat.reduceSub]
        refine zz_icmp_gt (tgt := 85) dX10_bestOf_21 (by decide) (fun q2 => ?_) (fun q2 => ?_)
        · exact fin
        · exact absurd (nI_lt (a := 6) (b := 7) (by decide) (by decide)) q2
      · skip
        refine zz_iconst (v := 1) (by decide) dX10_bestOf_15 ?_
        refine zz_goto (tgt := 21) dX10_bestOf_16 (by decide) ?_
        try dsimp only [zz_s1, zz_s2, zz_kill, zz_ent, zz_fl, List.set_cons_zero, List.set_cons_succ, List.getElem?_cons_zero, List.getElem?_cons_succ, Option.toList_some, Option.toList_none, List.cons_append, List.nil_append, List.append_nil, List.length_cons, List.length_nil, List.replicate_succ, List.replicate_zero, Nat.reduceAdd, Nat.reduceSub]
        refine zz_icmp_gt (tgt := 85) dX10_bestOf_21 (by decide) (fun q2 => ?_) (fun q2 => ?_)
        · exact fin
        · exact absurd (nI_lt (a := 1) (b := 7) (by decide) (by decide)) q2
    | succ q ih =>
      intro i Ix Jx b z4 hi f1 f2 f3 f4
      have hcx : ML Ix l n kd ag E sg rw := ML_of (fun c h1 h2 => f1 c (by omega)) hc
      have hbl := bf_le (n := n) (E := E) i
      have hpw := pow_le6 hn (show i + 1 ≤ 6 by omega)
      have hp1 : n ^ 1 ≤ 64 := by rw [Nat.pow_one]; omega
      -- the end: nothing more can come
      have fin : (∀ j, i ≤ j → j < i + (q + 1) → ¬ ((j = 0 ∨ 1 < n) ∧ n ^ (j + 1) ≤ 64)) → zz_G mX10_bestOf (d + 68) 0 85 [some (.ref 259), some (.int (nI l)), some (.int b), some (.int (nI (i + 1))), z4] [] M Ix Jx Q := by
        intro hno
        have i1 : 1 ≤ i := Nat.pos_of_ne_zero fun z => hno 0 (by omega) (by omega) ⟨Or.inl rfl, hp1⟩
        obtain ⟨-, f5, f6⟩ := f4.resolve_left (fun z => by omega)
        have e := bf_stop (n := n) (E := E) (i := i) (q + 1) hno
        rw [hi] at e
        subst f5
        refine zz_iload_n rfl dX10_bestOf_85 ?_
        refine zz_ireturn dX10_bestOf_86 rfl (by first | rfl | decide | assumption) ?_
        rw [← e]
        exact hQ Ix Jx f1 f2 f3 (by rw [e]; exact f6)
      have go : (i = 0 ∨ 1 < n) → zz_G mX10_bestOf (d + 68) 0 24 [some (.ref 259), some (.int (nI l)), some (.int b), some (.int (nI (i + 1))), z4] [] M Ix Jx Q := by
        intro hw
        refine zz_aload_n rfl dX10_bestOf_24 ?_
        refine zz_iload_n rfl dX10_bestOf_25 ?_
        refine zz_iload_n rfl dX10_bestOf_26 ?_
        refine zz_bipush (v := 64) (by decide) dX10_bestOf_27 ?_
        try dsimp only [zz_s1, zz_s2, zz_kill, zz_ent, zz_fl, List.set_cons_zero, List.set_cons_succ, List.getElem?_cons_zero, List.getElem?_cons_succ, Option.toList_some, Option.toList_none, List.cons_append, List.nil_append, List.append_nil, List.length_cons, List.length_nil, List.replicate_succ, List.replicate_zero, Nat.reduceAdd, Nat.reduceSub]
        refine zz_cV3 dX10_bestOf_29 lX10_168 rfl (os_259 hO) rfl rfl (Nat.le_of_ble_eq_true rfl) (Nat.le_of_ble_eq_true rfl) ?_
        refine sp_spell (mo := 64) (d + 64) hO hl hn1 hn hcx (show i + 1 ≤ 6 by omega) (by decide) (fun h64 => ?_) (fun h64 J1 a1 a2 => ?_)
        try dsimp only [zz_s1, zz_s2, zz_kill, zz_ent, zz_fl, List.set_cons_zero, List.set_cons_succ, List.getElem?_cons_zero, List.getElem?_cons_succ, Option.toList_some, Option.toList_none, List.cons_append, List.nil_append, List.append_nil, List.length_cons, List.length_nil, List.replicate_succ, List.replicate_zero, Nat.reduceAdd, Nat.reduceSub]
        · try dsimp only [zz_s1, zz_s2, zz_kill, zz_ent, zz_fl, List.set_cons_zero, List.set_cons_succ, List.getElem?_cons_zero, List.getElem?_cons_succ, Option.toList_some, Option.toList_none, List.cons_append, List.nil_append, List.append_nil, List.length_cons, List.length_nil, List.replicate_succ, List.replicate_zero, Nat.reduceAdd, Nat.reduceSub]
          refine zz_if_ne (tgt := 38) dX10_bestOf_32 (by decide) (fun q1 => ?_) (fun q1 => ?_)
          · exact absurd rfl q1
          · skip
            refine zz_goto (tgt := 85) dX10_bestOf_35 (by decide) ?_
            try dsimp only [zz_s1, zz_s2, zz_kill, zz_ent, zz_fl, List.set_cons_zero, List.set_cons_succ, List.getElem?_cons_zero, List.getElem?_cons_succ, Option.toList_some, Option.toList_none, List.cons_append, List.nil_append, List.append_nil, List.length_cons, List.length_nil, List.replicate_succ, List.replicate_zero, Nat.reduceAdd, Nat.reduceSub]
            refine fin (fun j h1 h2 z => h64 (Nat.le_trans (Nat.pow_le_pow_right (by omega) (by omega)) z.2))
        · try dsimp only [zz_s1, zz_s2, zz_kill, zz_ent, zz_fl, List.set_cons_zero, List.set_cons_succ, List.getElem?_cons_zero, List.getElem?_cons_succ, Option.toList_some, Option.toList_none, List.cons_append, List.nil_append, List.append_nil, List.length_cons, List.length_nil, List.replicate_succ, List.replicate_zero, Nat.reduceAdd, Nat.reduceSub]
          refine zz_if_ne (tgt := 38) dX10_bestOf_32 (by decide) (fun q1 => ?_) (fun q1 => ?_)
          rotate_left
          · exact absurd q1 (by decide)
          refine zz_aload_n rfl dX10_bestOf_38 ?_
          refine zz_aload_n rfl dX10_bestOf_39 ?_
          try dsimp only [zz_s1, zz_s2, zz_kill, zz_ent, zz_fl, List.set_cons_zero, List.set_cons_succ, List.getElem?_cons_zero, List.getElem?_cons_succ, Option.toList_some, Option.toList_none, List.cons_append, List.nil_append, List.append_nil, List.length_cons, List.length_nil, List.replicate_succ, List.replicate_zero, Nat.reduceAdd, Nat.reduceSub]
          refine zz_cV0 dX10_bestOf_40 lX10_171 rfl (os_259 hO) rfl rfl (Nat.le_of_ble_eq_true rfl) (Nat.le_of_ble_eq_true rfl) ?_
          refine sp_all (d + 67) hO h64 (by rw [zz_ui_at, pk_us]) (fun x hx => ?_)
          try dsimp only [zz_s1, zz_s2, zz_kill, zz_ent, zz_fl, List.set_cons_zero, List.set_cons_succ, List.getElem?_cons_zero, List.getElem?_cons_succ, Option.toList_some, Option.toList_none, List.cons_append, List.nil_append, List.append_nil, List.length_cons, List.length_nil, List.replicate_succ, List.replicate_zero, Nat.reduceAdd, Nat.reduceSub]
          refine zz_cV1 dX10_bestOf_43 lX10_175 rfl (os_259 hO) rfl rfl (Nat.le_of_ble_eq_true rfl) (Nat.le_of_ble_eq_true rfl) ?_
          refine sp_largest d hO h64 (tkB_sy (n := n) hE (i + 1)) (tkB_rf (i + 1)) a2 (fun i hi => by rw [hx] at hi; exact ltW_t.mp hi) ?_
          rw [hx, show al (tkB n E (i + 1)) 64 (ltW (n ^ (i + 1))) = bfA n E (i + 1) from rfl]
          have hA := bfA_le (n := n) (E := E) (k := i + 1) h64
          try dsimp only [zz_s1, zz_s2, zz_kill, zz_ent, zz_fl, List.set_cons_zero, List.set_cons_succ, List.getElem?_cons_zero, List.getElem?_cons_succ, Option.toList_some, Option.toList_none, List.cons_append, List.nil_append, List.append_nil, List.length_cons, List.length_nil, List.replicate_succ, List.replicate_zero, Nat.reduceAdd, Nat.reduceSub]
          refine zz_istore dX10_bestOf_46 (by decide) ?_
          refine zz_iload_n rfl dX10_bestOf_48 ?_
          refine zz_iconst (v := (-1)) (by decide) dX10_bestOf_49 ?_
          try dsimp only [zz_s1, zz_s2, zz_kill, zz_ent, zz_fl, List.set_cons_zero, List.set_cons_succ, List.getElem?_cons_zero, List.getElem?_cons_succ, Option.toList_some, Option.toList_none, List.cons_append, List.nil_append, List.append_nil, List.length_cons, List.length_nil, List.replicate_succ, List.replicate_zero, Nat.reduceAdd, Nat.reduceSub]
          have eI : ∀ c, c ≠ 259 → zz_ui Ix 259 13 (nI (n ^ (i + 1))) c = I c := fun c hc => by rw [zz_ui_ne _ _ _ hc]; exact f1 c hc
          have eI2 : ∀ j, j ≠ 13 → zz_ui Ix 259 13 (nI (n ^ (i + 1))) 259 j = Ix 259 j := fun j hj => by rw [zz_ui_at, pk_un hj]
          have take : ∀ Jy : zz_J, (∀ c, c ≠ 269 → c ≠ 274 → c ≠ 275 → Jy c = J c) → ((bf n E i).2 = 0 ∨ (bf n E i).1 ^ (i + 1) < bfA n E (i + 1) ^ (bf n E i).2) → zz_G mX10_bestOf (d + 68) 0 71 [some (.ref 259), some (.int (nI l)), some (.int b), some (.int (nI (i + 1))), some (.int (nI (bfA n E (i + 1))))] [] M (zz_ui Ix 259 13 (nI (n ^ (i + 1)))) Jy Q := by
            intro Jy hJy hy
            have e := bf_y (n := n) (E := E) (k := i) ⟨hw, h64⟩ hy
            refine zz_iload_n rfl dX10_bestOf_71 ?_
            refine zz_istore_n dX10_bestOf_72 (by decide) ?_
            refine zz_aload_n rfl dX10_bestOf_73 ?_
            refine zz_iload rfl dX10_bestOf_74 ?_
            refine zz_puti dX10_bestOf_76 fX10_251 rfl (fun q h => by cases h; rfl) (os_259 hO) ?_
            refine zz_iinc dX10_bestOf_79 rfl (congrArg (HAdd.hAdd _) (show Int32.ofInt 1 = 1 by decide)) (by decide) ?_
            refine zz_goto (tgt := 4) dX10_bestOf_82 (by decide) ?_
            try dsimp only [zz_s1, zz_s2, zz_kill, zz_ent, zz_fl, List.set_cons_zero, List.set_cons_succ, List.getElem?_cons_zero, List.getElem?_cons_succ, Option.toList_some, Option.toList_none, List.cons_append, List.nil_append, List.append_nil, List.length_cons, List.length_nil, List.replicate_succ, List.replicate_zero, Nat.reduceAdd, Nat.reduceSub]
            rw [nI_1]
            refine ih (i + 1) _ Jy _ _ (by omega) (fun c hc => ?_) (fun j h1 h2 => ?_) hJy (Or.inr ⟨by omega, by rw [e], ?_⟩)
            · rw [zz_ui_ne _ _ _ hc]; exact eI c hc
            · rw [zz_ui_at, pk_un h2, eI2 j h1]; exact f2 j h1 h2
            · rw [zz_ui_at, pk_us, e]
          have eJ1 : ∀ c, c ≠ 269 → c ≠ 274 → c ≠ 275 → J1 c = J c := fun c c1 c2 c3 => by rw [a1 c c1]; exact f3 c c1 c2 c3
          refine zz_icmp_eq (tgt := 71) dX10_bestOf_50 (by decide) (fun q2 => ?_) (fun q2 => ?_)
          · rcases f4 with z | z
            · refine take J1 eJ1 (Or.inl ?_)
              rw [z.1]; rfl
            · rw [z.2.1] at q2
              exact absurd q2 (nI_nm1 (by omega))
          obtain ⟨i1, f5, f6⟩ := f4.resolve_left (fun z => q2 z.2)
          subst f5
          refine zz_aload_n rfl dX10_bestOf_53 ?_
          refine zz_iload rfl dX10_bestOf_54 ?_
          refine zz_iload_n rfl dX10_bestOf_56 ?_
          refine zz_aload_n rfl dX10_bestOf_57 ?_
          refine zz_geti dX10_bestOf_58 fX10_251 rfl (os_259 hO) ?_
          refine zz_iload_n rfl dX10_bestOf_61 ?_
          try dsimp only [zz_s1, zz_s2, zz_kill, zz_ent, zz_fl, List.set_cons_zero, List.set_cons_succ, List.getElem?_cons_zero, List.getElem?_cons_succ, Option.toList_some, Option.toList_none, List.cons_append, List.nil_append, List.append_nil, List.length_cons, List.length_nil, List.replicate_succ, List.replicate_zero, Nat.reduceAdd, Nat.reduceSub]
          rw [eI2 28 (by decide), f6]
          refine zz_cV4 dX10_bestOf_62 lX10_248 rfl (os_259 hO) rfl rfl (Nat.le_of_ble_eq_true rfl) (Nat.le_of_ble_eq_true rfl) ?_
          refine sp_X10_heldRates (d + 66) hO (show bfA n E (i + 1) ≤ 1000 by omega) (show (bf n E i).1 ≤ 1000 by omega) (show i + 1 ≤ 12 by omega) (show (bf n E i).2 ≤ 12 by omega) (fun J2 k1 => ?_)
          try dsimp only [zz_s1, zz_s2, zz_kill, zz_ent, zz_fl, List.set_cons_zero, List.set_cons_succ, List.getElem?_cons_zero, List.getElem?_cons_succ, Option.toList_some, Option.toList_none, List.cons_append, List.nil_append, List.append_nil, List.length_cons, List.length_nil, List.replicate_succ, List.replicate_zero, Nat.reduceAdd, Nat.reduceSub]
          have eJ2 : ∀ c, c ≠ 269 → c ≠ 274 → c ≠ 275 → J2 c = J c := fun c c1 c2 c3 => by rw [k1 c c2 c3]; exact eJ1 c c1 c2 c3
          refine zz_if_gt (tgt := 71) dX10_bestOf_65 (by decide) (fun q3 => ?_) (fun q3 => ?_)
          · exact take J2 eJ2 (Or.inr ((cmN_gt _ _).mp q3))
          · skip
            have hp := (bf_pos (E := E) hn1 hn i i1).2
            have e := bf_n (n := n) (E := E) (k := i) (fun z => z.2.elim (fun y => by omega) (fun y => q3 ((cmN_gt _ _).mpr y)))
            refine zz_goto (tgt := 79) dX10_bestOf_68 (by decide) ?_
            refine zz_iinc dX10_bestOf_79 rfl (congrArg (HAdd.hAdd _) (show Int32.ofInt 1 = 1 by decide)) (by decide) ?_
            refine zz_goto (tgt := 4) dX10_bestOf_82 (by decide) ?_
            try dsimp only [zz_s1, zz_s2, zz_kill, zz_ent, zz_fl, List.set_cons_zero, List.set_cons_succ, List.getElem?_cons_zero, List.getElem?_cons_succ, Option.toList_some, Option.toList_none, List.cons_append, List.nil_append, List.append_nil, List.length_cons, List.length_nil, List.replicate_succ, List.replicate_zero, Nat.reduceAdd, Nat.reduceSub]
            rw [nI_1]
            refine ih (i + 1) _ J2 _ _ (by omega) eI (fun j h1 h2 => by rw [eI2 j h1]; exact f2 j h1 h2) eJ2 (Or.inr ⟨by omega, by rw [e], ?_⟩)
            rw [eI2 28 (by decide), e]; exact f6
      refine zz_iload_n rfl dX10_bestOf_4 ?_
      refine zz_aload_n rfl dX10_bestOf_5 ?_
      refine zz_getr dX10_bestOf_6 fX10_9 (fun _ _ _ _ => rfl) (os_259 hO) (or_259_0 hO) ?_
      refine zz_iload_n rfl dX10_bestOf_9 ?_
      refine zz_iald dX10_bestOf_10 (os_260 hO) (vp_in_nI hl (by decide)) ?_
      refine zz_iconst (v := 1) (by decide) dX10_bestOf_11 ?_
      try dsimp only [zz_s1, zz_s2, zz_kill, zz_ent, zz_fl, List.set_cons_zero, List.set_cons_succ, List.getElem?_cons_zero, List.getElem?_cons_succ, Option.toList_some, Option.toList_none, List.cons_append, List.nil_append, List.append_nil, List.length_cons, List.length_nil, List.replicate_succ, List.replicate_zero, Nat.reduceAdd, Nat.reduceSub]
      rw [nI_clamp (show l < 2 ^ 31 by omega), f1 260 (by decide), hc.2.1]
      refine zz_icmp_ne (tgt := 19) dX10_bestOf_12 (by decide) (fun q1 => ?_) (fun q1 => ?_)
      · have n1 : ¬ n = 1 := fun z => q1 (by rw [z]; rfl)
        refine zz_bipush (v := 6) (by decide) dX10_bestOf_19 ?_
        try dsimp only [zz_s1, zz_s2, zz_kill, zz_ent, zz_fl, List.set_cons_zero, List.set_cons_succ, List.getElem?_cons_zero, List.getElem?_cons_succ, Option.toList_some, Option.toList_none, List.cons_append, List.nil_append, List.append_nil, List.length_cons, List.length_nil, List.replicate_succ, List.replicate_zero, Nat.reduceAdd, Nat.reduceSub]
        refine zz_icmp_gt (tgt := 85) dX10_bestOf_21 (by decide) (fun q2 => ?_) (fun q2 => ?_)
        · exact absurd q2 (Int32.not_lt.mpr (nI_le (b := 6) (show i + 1 ≤ 6 by omega) (by decide)))
        · exact go (Or.inr (by omega))
      · skip
        have n1 : n = 1 := (nI_eq (b := 1) (by omega) (by decide)).mp q1
        refine zz_iconst (v := 1) (by decide) dX10_bestOf_15 ?_
        refine zz_goto (tgt := 21) dX10_bestOf_16 (by decide) ?_
        try dsimp only [zz_s1, zz_s2, zz_kill, zz_ent, zz_fl, List.set_cons_zero, List.set_cons_succ, List.getElem?_cons_zero, List.getElem?_cons_succ, Option.toList_some, Option.toList_none, List.cons_append, List.nil_append, List.append_nil, List.length_cons, List.length_nil, List.replicate_succ, List.replicate_zero, Nat.reduceAdd, Nat.reduceSub]
        refine zz_icmp_gt (tgt := 85) dX10_bestOf_21 (by decide) (fun q2 => ?_) (fun q2 => ?_)
        · have := (nI_ltI (a := 1) (by decide) (show i + 1 < 2 ^ 31 by omega)).mp q2
          exact fin (fun j h1 h2 z => by omega)
        · have : ¬ 1 < i + 1 := fun z => q2 (nI_lt (a := 1) z (by omega))
          exact go (Or.inl (by omega))
  exact loop 6 0 I J (-1) _ (by omega) (fun _ _ => rfl) (fun _ _ _ => rfl) (fun _ _ _ _ => rfl) (Or.inl ⟨rfl, rfl⟩)
theorem sp_X10_best (d : Nat) (hO : OK M) {l : Int32} {n : Nat → Nat} {kd ag : Nat → Int32} {E : Nat → Nat → Nat → Bool} {sg : Nat → Nat → Int32} {rw : Nat → Nat → Nat → Int32} (hn : ∀ j, j < 8 → 1 ≤ n j ∧ n j ≤ 24) (hE : ∀ j, j < 8 → wfE (n j) (E j)) (hC : ∀ j, j < 8 → ML I j (n j) (kd j) (ag j) (E j) (sg j) (rw j))
    (h1 : ∀ j, j < 8 → l = nI j → ∀ (I' : zz_I) (J' : zz_J), (∀ c, c ≠ 259 → I' c = I c) → (∀ i, i ≠ 13 → i ≠ 28 → I' 259 i = I 259 i) → (∀ c, c ≠ 269 → c ≠ 274 → c ≠ 275 → J' c = J c) → Q (some (.int (nI (bf (n j) (E j) 6).2))) M I' J')
    (h2 : ¬ vp_in l 8 → Q (some (.int (-2))) M I J) : zz_D mX10_best (d + 69) [.ref 259, .int l] M I J Q := by
  refine zz_D_of rfl (Nat.le_of_ble_eq_true rfl) ?_
  try dsimp only [zz_s1, zz_s2, zz_kill, zz_ent, zz_fl, List.set_cons_zero, List.set_cons_succ, List.getElem?_cons_zero, List.getElem?_cons_succ, Option.toList_some, Option.toList_none, List.cons_append, List.nil_append, List.append_nil, List.length_cons, List.length_nil, List.replicate_succ, List.replicate_zero, Nat.reduceAdd, Nat.reduceSub]
  refine zz_iload_n rfl dX10_best_0 ?_
  try dsimp only [zz_s1, zz_s2, zz_kill, zz_ent, zz_fl, List.set_cons_zero, List.set_cons_succ, List.getElem?_cons_zero, List.getElem?_cons_succ, Option.toList_some, Option.toList_none, List.cons_append, List.nil_append, List.append_nil, List.length_cons, List.length_nil, List.replicate_succ, List.replicate_zero, Nat.reduceAdd, Nat.reduceSub]
  refine zz_cS1 dX10_best_1 lX10_85 rfl (Nat.le_of_ble_eq_true rfl) (Nat.le_of_ble_eq_true rfl) ?_
  refine sp_isLine (d + 67) (fun r hr => ?_)
  try dsimp only [zz_s1, zz_s2, zz_kill, zz_ent, zz_fl, List.set_cons_zero, List.set_cons_succ, List.getElem?_cons_zero, List.getElem?_cons_succ, Option.toList_some, Option.toList_none, List.cons_append, List.nil_append, List.append_nil, List.length_cons, List.length_nil, List.replicate_succ, List.replicate_zero, Nat.reduceAdd, Nat.reduceSub]
  refine zz_if_eq (tgt := 15) dX10_best_4 (by decide) (fun q1 => ?_) (fun q1 => ?_)
  · refine zz_bipush (v := (-2)) (by decide) dX10_best_15 ?_
    refine zz_ireturn dX10_best_17 rfl (by first | rfl | decide | assumption) ?_
    exact h2 (hr.f q1)
  · skip
    obtain ⟨j, hj, rfl⟩ := vp_in_of (hr.t q1) (by decide)
    refine zz_aload_n rfl dX10_best_7 ?_
    refine zz_iload_n rfl dX10_best_8 ?_
    try dsimp only [zz_s1, zz_s2, zz_kill, zz_ent, zz_fl, List.set_cons_zero, List.set_cons_succ, List.getElem?_cons_zero, List.getElem?_cons_succ, Option.toList_some, Option.toList_none, List.cons_append, List.nil_append, List.append_nil, List.length_cons, List.length_nil, List.replicate_succ, List.replicate_zero, Nat.reduceAdd, Nat.reduceSub]
    refine zz_cV1 dX10_best_9 lX10_254 rfl (os_259 hO) rfl rfl (Nat.le_of_ble_eq_true rfl) (Nat.le_of_ble_eq_true rfl) ?_
    refine sp_bestOf d hO hj (hn j hj).1 (hn j hj).2 (hE j hj) (hC j hj) (fun I1 J1 a1 a2 a3 a4 => ?_)
    try dsimp only [zz_s1, zz_s2, zz_kill, zz_ent, zz_fl, List.set_cons_zero, List.set_cons_succ, List.getElem?_cons_zero, List.getElem?_cons_succ, Option.toList_some, Option.toList_none, List.cons_append, List.nil_append, List.append_nil, List.length_cons, List.length_nil, List.replicate_succ, List.replicate_zero, Nat.reduceAdd, Nat.reduceSub]
    refine zz_goto (tgt := 17) dX10_best_12 (by decide) ?_
    refine zz_ireturn dX10_best_17 rfl (by first | rfl | decide | assumption) ?_
    exact h1 j hj rfl I1 J1 a1 a2 a3
end PBest

