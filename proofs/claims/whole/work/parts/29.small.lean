/-! ===== small things that many methods share ===== -/
/-- a boolean answer -/
def bo (r : Int32) (P : Prop) : Prop := (r = 1 ∧ P) ∨ (r = 0 ∧ ¬ P)
theorem bo.t {r : Int32} {P : Prop} (h : bo r P) (h1 : ¬ r = 0) : P := h.elim (fun q => q.2) (fun q => absurd q.1 h1)
theorem bo.f {r : Int32} {P : Prop} (h : bo r P) (h0 : r = 0) : ¬ P := h.elim (fun q => by rw [q.1] at h0; exact absurd h0 (by decide)) (fun q => q.2)
theorem bo.one {P : Prop} (h : P) : bo 1 P := Or.inl ⟨rfl, h⟩
theorem bo.zero {P : Prop} (h : ¬ P) : bo 0 P := Or.inr ⟨rfl, h⟩
theorem bo.nar {r : Int32} {P : Prop} (h : bo r P) : narrow .boolean (.int r) = .int r := h.elim (fun q => by rw [q.1]; rfl) (fun q => by rw [q.1]; rfl)
theorem bo.iff {r : Int32} {P P' : Prop} (h : bo r P) (e : P ↔ P') : bo r P' := h.elim (fun q => Or.inl ⟨q.1, e.mp q.2⟩) (fun q => Or.inr ⟨q.1, fun z => q.2 (e.mpr z)⟩)
theorem bo.uniq {r r' : Int32} {P : Prop} (h : bo r P) (h' : bo r' P) : r = r' := by
  rcases h with ⟨a, b⟩ | ⟨a, b⟩ <;> rcases h' with ⟨c, d⟩ | ⟨c, d⟩
  · rw [a, c]
  · exact absurd b d
  · exact absurd d b
  · rw [a, c]
theorem cmp_gt {x z : Int64} : 0 < lg_cmp x z ↔ z < x := by
  unfold lg_cmp
  by_cases h1 : x > z
  · rw [if_pos h1]; exact ⟨fun _ => h1, fun _ => by decide⟩
  · rw [if_neg h1]
    by_cases h2 : x = z
    · rw [if_pos h2]; exact ⟨fun h => absurd h (by decide), fun h => absurd h h1⟩
    · rw [if_neg h2]; exact ⟨fun h => absurd h (by decide), fun h => absurd h h1⟩
theorem cmp_eq {x z : Int64} : lg_cmp x z = 0 ↔ x = z := by
  unfold lg_cmp
  by_cases h1 : x > z
  · rw [if_pos h1]; exact ⟨fun h => absurd h (by decide), fun h => by rw [h] at h1; exact absurd h1 Int64.lt_irrefl⟩
  · rw [if_neg h1]
    by_cases h2 : x = z
    · rw [if_pos h2]; exact ⟨fun _ => h2, fun _ => rfl⟩
    · rw [if_neg h2]; exact ⟨fun h => absurd h (by decide), fun h => absurd h h2⟩
section PSmall
variable {M : zz_M} {I : zz_I} {J : zz_J} {Q : zz_Q}
theorem sp_in (d : Nat) {v lo hi : Int64} (hQ : ∀ r : Int32, bo r (lo ≤ v ∧ v ≤ hi) → Q (some (.int r)) M I J) : zz_D mX10_in d [.long v, .long lo, .long hi] M I J Q := by
  refine zz_D_of rfl (Nat.le_of_ble_eq_true rfl) ?_
  try dsimp only [zz_s1, zz_s2, zz_kill, zz_ent, zz_fl, List.set_cons_zero, List.set_cons_succ, List.getElem?_cons_zero, List.getElem?_cons_succ, Option.toList_some, Option.toList_none, List.cons_append, List.nil_append, List.append_nil, List.length_cons, List.length_nil, List.replicate_succ, List.replicate_zero, Nat.reduceAdd, Nat.reduceSub]
  refine zz_lload_n rfl dX10_in_0 ?_
  refine zz_lload_n rfl dX10_in_1 ?_
  refine zz_lcmp dX10_in_2 ?_
  try dsimp only [zz_s1, zz_s2, zz_kill, zz_ent, zz_fl, List.set_cons_zero, List.set_cons_succ, List.getElem?_cons_zero, List.getElem?_cons_succ, Option.toList_some, Option.toList_none, List.cons_append, List.nil_append, List.append_nil, List.length_cons, List.length_nil, List.replicate_succ, List.replicate_zero, Nat.reduceAdd, Nat.reduceSub]
  refine zz_if_lt (tgt := 17) dX10_in_3 (by decide) (fun h => ?_) (fun h => ?_)
  · refine zz_iconst (v := 0) (by decide) dX10_in_17 ?_
    refine zz_ireturn dX10_in_18 rfl (by first | rfl | decide | assumption) ?_
    exact hQ 0 (bo.zero fun q => Int64.not_lt.mpr q.1 (cmp_lt.mp h))
  · skip
    refine zz_lload_n rfl dX10_in_6 ?_
    refine zz_lload rfl dX10_in_7 ?_
    refine zz_lcmp dX10_in_9 ?_
    try dsimp only [zz_s1, zz_s2, zz_kill, zz_ent, zz_fl, List.set_cons_zero, List.set_cons_succ, List.getElem?_cons_zero, List.getElem?_cons_succ, Option.toList_some, Option.toList_none, List.cons_append, List.nil_append, List.append_nil, List.length_cons, List.length_nil, List.replicate_succ, List.replicate_zero, Nat.reduceAdd, Nat.reduceSub]
    refine zz_if_gt (tgt := 17) dX10_in_10 (by decide) (fun h2 => ?_) (fun h2 => ?_)
    · refine zz_iconst (v := 0) (by decide) dX10_in_17 ?_
      refine zz_ireturn dX10_in_18 rfl (by first | rfl | decide | assumption) ?_
      exact hQ 0 (bo.zero fun q => Int64.not_lt.mpr q.2 (cmp_gt.mp h2))
    · skip
      refine zz_iconst (v := 1) (by decide) dX10_in_13 ?_
      refine zz_goto (tgt := 18) dX10_in_14 (by decide) ?_
      refine zz_ireturn dX10_in_18 rfl (by first | rfl | decide | assumption) ?_
      exact hQ 1 (bo.one ⟨Int64.not_lt.mp fun q => h (cmp_lt.mpr q), Int64.not_lt.mp fun q => h2 (cmp_gt.mpr q)⟩)
theorem i2l_int (x : Int32) : x.toInt64.toInt = x.toInt := by simp
theorem in_line {l : Int32} : ((0 : Int64) ≤ l.toInt64 ∧ l.toInt64 ≤ 7) ↔ vp_in l 8 := by
  rw [vp_in_iff, Int64.le_iff_toInt_le, Int64.le_iff_toInt_le, i2l_int]
  show (0 : Int) ≤ l.toInt ∧ l.toInt ≤ 7 ↔ _
  omega
theorem sp_isLine (d : Nat) {l : Int32} (hQ : ∀ r : Int32, bo r (vp_in l 8) → Q (some (.int r)) M I J) : zz_D mX10_isLine (d + 1) [.int l] M I J Q := by
  refine zz_D_of rfl (Nat.le_of_ble_eq_true rfl) ?_
  try dsimp only [zz_s1, zz_s2, zz_kill, zz_ent, zz_fl, List.set_cons_zero, List.set_cons_succ, List.getElem?_cons_zero, List.getElem?_cons_succ, Option.toList_some, Option.toList_none, List.cons_append, List.nil_append, List.append_nil, List.length_cons, List.length_nil, List.replicate_succ, List.replicate_zero, Nat.reduceAdd, Nat.reduceSub]
  refine zz_iload_n rfl dX10_isLine_0 ?_
  refine zz_i2l dX10_isLine_1 ?_
  refine zz_lconst (v := 0) (by decide) dX10_isLine_2 ?_
  refine zz_ldc2 tX10_79 dX10_isLine_3 ?_
  try dsimp only [zz_s1, zz_s2, zz_kill, zz_ent, zz_fl, List.set_cons_zero, List.set_cons_succ, List.getElem?_cons_zero, List.getElem?_cons_succ, Option.toList_some, Option.toList_none, List.cons_append, List.nil_append, List.append_nil, List.length_cons, List.length_nil, List.replicate_succ, List.replicate_zero, Nat.reduceAdd, Nat.reduceSub]
  refine zz_cS3 dX10_isLine_6 lX10_81 rfl (Nat.le_of_ble_eq_true rfl) (Nat.le_of_ble_eq_true rfl) ?_
  refine sp_in d (fun r hr => ?_)
  try dsimp only [zz_s1, zz_s2, zz_kill, zz_ent, zz_fl, List.set_cons_zero, List.set_cons_succ, List.getElem?_cons_zero, List.getElem?_cons_succ, Option.toList_some, Option.toList_none, List.cons_append, List.nil_append, List.append_nil, List.length_cons, List.length_nil, List.replicate_succ, List.replicate_zero, Nat.reduceAdd, Nat.reduceSub]
  refine zz_ireturn dX10_isLine_9 rfl hr.nar ?_
  exact hQ r (hr.iff in_line)
theorem sp_lineAt (d : Nat) (hO : OK M) {l : Int32} (h1 : ∀ j, j < 8 → l = nI j → Q (some (.ref (LN j))) M I J) (h2 : ¬ vp_in l 8 → Q (some .null) M I J) : zz_D mX9_lineAt d [.ref 1, .int l] M I J Q := by
  refine zz_D_of rfl (Nat.le_of_ble_eq_true rfl) ?_
  try dsimp only [zz_s1, zz_s2, zz_kill, zz_ent, zz_fl, List.set_cons_zero, List.set_cons_succ, List.getElem?_cons_zero, List.getElem?_cons_succ, Option.toList_some, Option.toList_none, List.cons_append, List.nil_append, List.append_nil, List.length_cons, List.length_nil, List.replicate_succ, List.replicate_zero, Nat.reduceAdd, Nat.reduceSub]
  refine zz_iload_n rfl dX9_lineAt_0 ?_
  try dsimp only [zz_s1, zz_s2, zz_kill, zz_ent, zz_fl, List.set_cons_zero, List.set_cons_succ, List.getElem?_cons_zero, List.getElem?_cons_succ, Option.toList_some, Option.toList_none, List.cons_append, List.nil_append, List.append_nil, List.length_cons, List.length_nil, List.replicate_succ, List.replicate_zero, Nat.reduceAdd, Nat.reduceSub]
  refine zz_if_lt (tgt := 10) dX9_lineAt_1 (by decide) (fun h => ?_) (fun h => ?_)
  · refine zz_null dX9_lineAt_10 ?_
    refine zz_goto (tgt := 20) dX9_lineAt_11 (by decide) ?_
    refine zz_nreturn dX9_lineAt_20 rfl ?_
    exact h2 (fun q => q (Or.inl h))
  · skip
    refine zz_iload_n rfl dX9_lineAt_4 ?_
    refine zz_bipush (v := 8) (by decide) dX9_lineAt_5 ?_
    try dsimp only [zz_s1, zz_s2, zz_kill, zz_ent, zz_fl, List.set_cons_zero, List.set_cons_succ, List.getElem?_cons_zero, List.getElem?_cons_succ, Option.toList_some, Option.toList_none, List.cons_append, List.nil_append, List.append_nil, List.length_cons, List.length_nil, List.replicate_succ, List.replicate_zero, Nat.reduceAdd, Nat.reduceSub]
    refine zz_icmp_lt (tgt := 14) dX9_lineAt_7 (by decide) (fun h3 => ?_) (fun h3 => ?_)
    · refine zz_aload_n rfl dX9_lineAt_14 ?_
      refine zz_getr dX9_lineAt_15 fX9_25 (fun _ _ _ _ => rfl) (os_1 hO) (or_1_2 hO) ?_
      refine zz_iload_n rfl dX9_lineAt_18 ?_
      try dsimp only [zz_s1, zz_s2, zz_kill, zz_ent, zz_fl, List.set_cons_zero, List.set_cons_succ, List.getElem?_cons_zero, List.getElem?_cons_succ, Option.toList_some, Option.toList_none, List.cons_append, List.nil_append, List.append_nil, List.length_cons, List.length_nil, List.replicate_succ, List.replicate_zero, Nat.reduceAdd, Nat.reduceSub]
      have hv : vp_in l 8 := vp_in_iff.mpr (by
        rw [Int32.lt_iff_toInt_lt] at h h3
        have e0 : (0 : Int32).toInt = 0 := rfl
        have e8 : (8 : Int32).toInt = 8 := rfl
        omega)
      obtain ⟨j, hj, rfl⟩ := vp_in_of hv (by decide)
      refine zz_aald dX9_lineAt_19 (os_6 hO) hv (q := LN j) (by rw [nI_clamp (by omega)]; exact olr_line hO hj) ?_
      refine zz_areturn dX9_lineAt_20 rfl ?_
      exact h1 j hj rfl
    · skip
      refine zz_null dX9_lineAt_10 ?_
      refine zz_goto (tgt := 20) dX9_lineAt_11 (by decide) ?_
      refine zz_nreturn dX9_lineAt_20 rfl ?_
      refine h2 (fun q => ?_)
      rw [vp_in_iff] at q
      rw [Int32.lt_iff_toInt_lt] at h3
      have e8 : (8 : Int32).toInt = 8 := rfl
      omega
theorem sp_isLength (d : Nat) {k : Int32} (hQ : ∀ r : Int32, bo r (1 ≤ k ∧ k ≤ 6) → Q (some (.int r)) M I J) : zz_D mX9_isLength d [.int k] M I J Q := by
  refine zz_D_of rfl (Nat.le_of_ble_eq_true rfl) ?_
  try dsimp only [zz_s1, zz_s2, zz_kill, zz_ent, zz_fl, List.set_cons_zero, List.set_cons_succ, List.getElem?_cons_zero, List.getElem?_cons_succ, Option.toList_some, Option.toList_none, List.cons_append, List.nil_append, List.append_nil, List.length_cons, List.length_nil, List.replicate_succ, List.replicate_zero, Nat.reduceAdd, Nat.reduceSub]
  refine zz_iload_n rfl dX9_isLength_0 ?_
  refine zz_iconst (v := 1) (by decide) dX9_isLength_1 ?_
  try dsimp only [zz_s1, zz_s2, zz_kill, zz_ent, zz_fl, List.set_cons_zero, List.set_cons_succ, List.getElem?_cons_zero, List.getElem?_cons_succ, Option.toList_some, Option.toList_none, List.cons_append, List.nil_append, List.append_nil, List.length_cons, List.length_nil, List.replicate_succ, List.replicate_zero, Nat.reduceAdd, Nat.reduceSub]
  refine zz_icmp_lt (tgt := 15) dX9_isLength_2 (by decide) (fun h => ?_) (fun h => ?_)
  · refine zz_iconst (v := 0) (by decide) dX9_isLength_15 ?_
    refine zz_ireturn dX9_isLength_16 rfl (by first | rfl | decide | assumption) ?_
    exact hQ 0 (bo.zero fun q => Int32.not_lt.mpr q.1 h)
  · skip
    refine zz_iload_n rfl dX9_isLength_5 ?_
    refine zz_bipush (v := 6) (by decide) dX9_isLength_6 ?_
    try dsimp only [zz_s1, zz_s2, zz_kill, zz_ent, zz_fl, List.set_cons_zero, List.set_cons_succ, List.getElem?_cons_zero, List.getElem?_cons_succ, Option.toList_some, Option.toList_none, List.cons_append, List.nil_append, List.append_nil, List.length_cons, List.length_nil, List.replicate_succ, List.replicate_zero, Nat.reduceAdd, Nat.reduceSub]
    refine zz_icmp_gt (tgt := 15) dX9_isLength_8 (by decide) (fun h2 => ?_) (fun h2 => ?_)
    · refine zz_iconst (v := 0) (by decide) dX9_isLength_15 ?_
      refine zz_ireturn dX9_isLength_16 rfl (by first | rfl | decide | assumption) ?_
      exact hQ 0 (bo.zero fun q => Int32.not_lt.mpr q.2 h2)
    · skip
      refine zz_iconst (v := 1) (by decide) dX9_isLength_11 ?_
      refine zz_goto (tgt := 16) dX9_isLength_12 (by decide) ?_
      refine zz_ireturn dX9_isLength_16 rfl (by first | rfl | decide | assumption) ?_
      exact hQ 1 (bo.one ⟨Int32.not_lt.mp h, Int32.not_lt.mp h2⟩)
theorem sp_quotient (d : Nat) {a b : Nat} (ha : a < 2 ^ 31) (h0 : 0 < b) (hb : b < 2 ^ 31) (hQ : Q (some (.int (nI (a / b)))) M I J) : zz_D mX9_quotient d [.int (nI a), .int (nI b)] M I J Q := by
  refine zz_D_of rfl (Nat.le_of_ble_eq_true rfl) ?_
  try dsimp only [zz_s1, zz_s2, zz_kill, zz_ent, zz_fl, List.set_cons_zero, List.set_cons_succ, List.getElem?_cons_zero, List.getElem?_cons_succ, Option.toList_some, Option.toList_none, List.cons_append, List.nil_append, List.append_nil, List.length_cons, List.length_nil, List.replicate_succ, List.replicate_zero, Nat.reduceAdd, Nat.reduceSub]
  refine zz_iload_n rfl dX9_quotient_0 ?_
  refine zz_iconst (v := 1) (by decide) dX9_quotient_1 ?_
  try dsimp only [zz_s1, zz_s2, zz_kill, zz_ent, zz_fl, List.set_cons_zero, List.set_cons_succ, List.getElem?_cons_zero, List.getElem?_cons_succ, Option.toList_some, Option.toList_none, List.cons_append, List.nil_append, List.append_nil, List.length_cons, List.length_nil, List.replicate_succ, List.replicate_zero, Nat.reduceAdd, Nat.reduceSub]
  refine zz_icmp_ge (tgt := 9) dX9_quotient_2 (by decide) (fun h => ?_) (fun h => ?_)
  · refine zz_iload_n rfl dX9_quotient_9 ?_
    refine zz_iload_n rfl dX9_quotient_10 ?_
    refine zz_idiv (nI_ne0 h0 hb) dX9_quotient_11 ?_
    refine zz_ireturn dX9_quotient_12 rfl (by first | rfl | decide | assumption) ?_
    rw [pk_div ha h0 hb]
    exact hQ
  · exact absurd (nI_le (a := 1) h0 hb) h
theorem sp_remainder (d : Nat) {a b : Nat} (ha : a < 2 ^ 31) (h0 : 0 < b) (hb : b < 2 ^ 31) (hQ : Q (some (.int (nI (a % b)))) M I J) : zz_D mX9_remainder d [.int (nI a), .int (nI b)] M I J Q := by
  refine zz_D_of rfl (Nat.le_of_ble_eq_true rfl) ?_
  try dsimp only [zz_s1, zz_s2, zz_kill, zz_ent, zz_fl, List.set_cons_zero, List.set_cons_succ, List.getElem?_cons_zero, List.getElem?_cons_succ, Option.toList_some, Option.toList_none, List.cons_append, List.nil_append, List.append_nil, List.length_cons, List.length_nil, List.replicate_succ, List.replicate_zero, Nat.reduceAdd, Nat.reduceSub]
  refine zz_iload_n rfl dX9_remainder_0 ?_
  refine zz_iconst (v := 1) (by decide) dX9_remainder_1 ?_
  try dsimp only [zz_s1, zz_s2, zz_kill, zz_ent, zz_fl, List.set_cons_zero, List.set_cons_succ, List.getElem?_cons_zero, List.getElem?_cons_succ, Option.toList_some, Option.toList_none, List.cons_append, List.nil_append, List.append_nil, List.length_cons, List.length_nil, List.replicate_succ, List.replicate_zero, Nat.reduceAdd, Nat.reduceSub]
  refine zz_icmp_ge (tgt := 9) dX9_remainder_2 (by decide) (fun h => ?_) (fun h => ?_)
  · refine zz_iload_n rfl dX9_remainder_9 ?_
    refine zz_iload_n rfl dX9_remainder_10 ?_
    refine zz_irem (nI_ne0 h0 hb) dX9_remainder_11 ?_
    refine zz_ireturn dX9_remainder_12 rfl (by first | rfl | decide | assumption) ?_
    rw [show jv_rem (nI a) (nI b) = nI (a % b) from pk_rem ha h0 hb]
    exact hQ
  · exact absurd (nI_le (a := 1) h0 hb) h
theorem sp_wordsInAll (d : Nat) {n k : Nat} (hn : 1 ≤ n) (hn2 : n ≤ 24) (hk : k ≤ 6) (hQ : Q (some (.int (nI (n ^ k)))) M I J) : zz_D mX9_wordsInAll d [.int (nI n), .int (nI k)] M I J Q := by
  refine zz_D_of rfl (Nat.le_of_ble_eq_true rfl) ?_
  try dsimp only [zz_s1, zz_s2, zz_kill, zz_ent, zz_fl, List.set_cons_zero, List.set_cons_succ, List.getElem?_cons_zero, List.getElem?_cons_succ, Option.toList_some, Option.toList_none, List.cons_append, List.nil_append, List.append_nil, List.length_cons, List.length_nil, List.replicate_succ, List.replicate_zero, Nat.reduceAdd, Nat.reduceSub]
  refine zz_iconst (v := 1) (by decide) dX9_wordsInAll_0 ?_
  refine zz_istore_n dX9_wordsInAll_1 (by decide) ?_
  refine zz_iconst (v := 0) (by decide) dX9_wordsInAll_2 ?_
  refine zz_istore_n dX9_wordsInAll_3 (by decide) ?_
  try dsimp only [zz_s1, zz_s2, zz_kill, zz_ent, zz_fl, List.set_cons_zero, List.set_cons_succ, List.getElem?_cons_zero, List.getElem?_cons_succ, Option.toList_some, Option.toList_none, List.cons_append, List.nil_append, List.append_nil, List.length_cons, List.length_nil, List.replicate_succ, List.replicate_zero, Nat.reduceAdd, Nat.reduceSub]
  have loop : ∀ (r i : Nat), i + r = k → zz_G mX9_wordsInAll d 0 4 [some (.int (nI n)), some (.int (nI k)), some (.int (nI (n ^ i))), some (.int (nI i))] [] M I J Q := by
    intro r
    induction r with
    | zero =>
      intro i hi
      have e : i = k := by omega
      subst e
      refine zz_iload_n rfl dX9_wordsInAll_4 ?_
      refine zz_iload_n rfl dX9_wordsInAll_5 ?_
      try dsimp only [zz_s1, zz_s2, zz_kill, zz_ent, zz_fl, List.set_cons_zero, List.set_cons_succ, List.getElem?_cons_zero, List.getElem?_cons_succ, Option.toList_some, Option.toList_none, List.cons_append, List.nil_append, List.append_nil, List.length_cons, List.length_nil, List.replicate_succ, List.replicate_zero, Nat.reduceAdd, Nat.reduceSub]
      refine zz_icmp_ge (tgt := 19) dX9_wordsInAll_6 (by decide) (fun h => ?_) (fun h => ?_)
      · refine zz_iload_n rfl dX9_wordsInAll_19 ?_
        refine zz_ireturn dX9_wordsInAll_20 rfl (by first | rfl | decide | assumption) ?_
        exact hQ
      · exact absurd (nI_le (Nat.le_refl i) (by omega)) h
    | succ r ih =>
      intro i hi
      refine zz_iload_n rfl dX9_wordsInAll_4 ?_
      refine zz_iload_n rfl dX9_wordsInAll_5 ?_
      try dsimp only [zz_s1, zz_s2, zz_kill, zz_ent, zz_fl, List.set_cons_zero, List.set_cons_succ, List.getElem?_cons_zero, List.getElem?_cons_succ, Option.toList_some, Option.toList_none, List.cons_append, List.nil_append, List.append_nil, List.length_cons, List.length_nil, List.replicate_succ, List.replicate_zero, Nat.reduceAdd, Nat.reduceSub]
      refine zz_icmp_ge (tgt := 19) dX9_wordsInAll_6 (by decide) (fun h => ?_) (fun h => ?_)
      · exact absurd h (nI_ge (by omega) (by omega))
      · skip
        refine zz_iload_n rfl dX9_wordsInAll_9 ?_
        refine zz_iload_n rfl dX9_wordsInAll_10 ?_
        refine zz_imul dX9_wordsInAll_11 ?_
        refine zz_istore_n dX9_wordsInAll_12 (by decide) ?_
        refine zz_iinc dX9_wordsInAll_13 rfl (congrArg (HAdd.hAdd _) (show Int32.ofInt 1 = 1 by decide)) (by decide) ?_
        refine zz_goto (tgt := 4) dX9_wordsInAll_16 (by decide) ?_
        try dsimp only [zz_s1, zz_s2, zz_kill, zz_ent, zz_fl, List.set_cons_zero, List.set_cons_succ, List.getElem?_cons_zero, List.getElem?_cons_succ, Option.toList_some, Option.toList_none, List.cons_append, List.nil_append, List.append_nil, List.length_cons, List.length_nil, List.replicate_succ, List.replicate_zero, Nat.reduceAdd, Nat.reduceSub]
        rw [nI_1, pk_mul, ← Nat.pow_succ]
        exact ih (i + 1) (by omega)
  have h0 := loop k 0 (by omega)
  rw [Nat.pow_zero] at h0
  exact h0
end PSmall

