/-! ===== most of the class ===== -/
theorem bl_1 (i : Nat) : bl 1 i = decide (i = 0) := by
  rw [show (1 : Int64) = lN 1 from rfl, bl_lN, show (1 : Nat) = 2 ^ 0 from rfl, Nat.testBit_two_pow]
  by_cases e : i = 0
  · subst e; rfl
  · simp [e]; omega
theorem low1L (y : Int64) : (y &&& 1 = 0) ↔ bl y 0 = false := by
  rw [bl_zero]
  constructor
  · intro h; have := h 0; rw [bl_and, bl_1] at this; simpa using this
  · intro h i
    rw [bl_and, bl_1]
    by_cases e : i = 0
    · subst e; rw [h]; rfl
    · simp [e]
theorem bl_ushr0 (x : Int64) {k : Nat} (hk : k < 64) : bl (jv_lushr x (nI k)) 0 = bl x k := by
  obtain ⟨n, hn, rfl⟩ := wb_of x
  rw [ls_lN hn hk, bl_lN, bl_lN, Nat.testBit_div_two_pow]
  simp [hk]
theorem bl_sshr0 (x : Int64) {k : Nat} (hk : k < 64) : bl (jv_lshr x (nI k)) 0 = bl x k := by
  unfold jv_lshr bl
  rw [Int64.toBitVec_shiftRight, wb_c k hk]
  show (x.toBitVec.sshiftRight ((BitVec.ofNat 64 k).smod 64).toNat).getLsbD 0 = _
  rw [wb_sm k hk, BitVec.toNat_ofNat, Nat.mod_eq_of_lt (by omega), BitVec.getLsbD_sshiftRight]
  simp [hk]
section PMost
variable {M : zz_M} {I : zz_I} {J : zz_J} {Q : zz_Q} {n : Nat → Nat} {kd ag : Nat → Int32} {E : Nat → Nat → Nat → Bool} {sg : Nat → Nat → Int32} {rw : Nat → Nat → Nat → Int32}
theorem sp_keep (d : Nat) (hO : OK M) {x : Int64} {k l a : Int32} (hQ : ∀ I' : zz_I, (∀ c, c ≠ 24 → c ≠ 25 → I' c = I c) → I' 24 1 = nI (fb_ct (bl x) 64) → I' 24 2 = k → I' 24 3 = l → I' 24 4 = a → (∀ v, v < 64 → bl x v = true → I' 25 (fb_ct (bl x) v) = nI v) → Q none M I' J) : zz_D mX0_keep d [.ref 24, .long x, .int k, .int l, .int a] M I J Q := by
  refine zz_D_of rfl (Nat.le_of_ble_eq_true rfl) ?_
  try dsimp only [zz_s1, zz_s2, zz_kill, zz_ent, zz_fl, List.set_cons_zero, List.set_cons_succ, List.getElem?_cons_zero, List.getElem?_cons_succ, Option.toList_some, Option.toList_none, List.cons_append, List.nil_append, List.append_nil, List.length_cons, List.length_nil, List.replicate_succ, List.replicate_zero, Nat.reduceAdd, Nat.reduceSub]
  refine zz_aload_n rfl dX0_keep_0 ?_
  refine zz_iconst (v := 0) (by decide) dX0_keep_1 ?_
  refine zz_puti dX0_keep_2 fX0_15 rfl (fun q h => by cases h; rfl) (os_24 hO) ?_
  refine zz_iconst (v := 0) (by decide) dX0_keep_5 ?_
  refine zz_istore dX0_keep_6 (by decide) ?_
  try dsimp only [zz_s1, zz_s2, zz_kill, zz_ent, zz_fl, List.set_cons_zero, List.set_cons_succ, List.getElem?_cons_zero, List.getElem?_cons_succ, Option.toList_some, Option.toList_none, List.cons_append, List.nil_append, List.append_nil, List.length_cons, List.length_nil, List.replicate_succ, List.replicate_zero, Nat.reduceAdd, Nat.reduceSub]
  have loop : ∀ (q v : Nat) (Ix : zz_I), v + q = 64 → (∀ c, c ≠ 24 → c ≠ 25 → Ix c = I c) → Ix 24 1 = nI (fb_ct (bl x) v) → (∀ w, w < v → bl x w = true → Ix 25 (fb_ct (bl x) w) = nI w) → zz_G mX0_keep d 0 8 [some (.ref 24), some (.long x), none, some (.int k), some (.int l), some (.int a), some (.int (nI v))] [] M Ix J Q := by
    intro q
    induction q with
    | zero =>
      intro v Ix hv f1 f2 f3
      have e : v = 64 := by omega
      subst e
      refine zz_iload rfl dX0_keep_8 ?_
      refine zz_bipush (v := 64) (by decide) dX0_keep_10 ?_
      try dsimp only [zz_s1, zz_s2, zz_kill, zz_ent, zz_fl, List.set_cons_zero, List.set_cons_succ, List.getElem?_cons_zero, List.getElem?_cons_succ, Option.toList_some, Option.toList_none, List.cons_append, List.nil_append, List.append_nil, List.length_cons, List.length_nil, List.replicate_succ, List.replicate_zero, Nat.reduceAdd, Nat.reduceSub]
      refine zz_icmp_ge (tgt := 53) dX0_keep_12 (by decide) (fun h => ?_) (fun h => ?_)
      · refine zz_aload_n rfl dX0_keep_53 ?_
        refine zz_iload_n rfl dX0_keep_54 ?_
        refine zz_puti dX0_keep_55 fX0_19 rfl (fun q h => by cases h; rfl) (os_24 hO) ?_
        refine zz_aload_n rfl dX0_keep_58 ?_
        refine zz_iload rfl dX0_keep_59 ?_
        refine zz_puti dX0_keep_61 fX0_22 rfl (fun q h => by cases h; rfl) (os_24 hO) ?_
        refine zz_aload_n rfl dX0_keep_64 ?_
        refine zz_iload rfl dX0_keep_65 ?_
        refine zz_puti dX0_keep_67 fX0_25 rfl (fun q h => by cases h; rfl) (os_24 hO) ?_
        refine zz_return dX0_keep_70 rfl ?_
        refine hQ _ (fun c c1 c2 => ?_) ?_ ?_ ?_ ?_ (fun w hw hb => ?_)
        · rw [zz_ui_ne _ _ _ c1, zz_ui_ne _ _ _ c1, zz_ui_ne _ _ _ c1]; exact f1 c c1 c2
        · rw [zz_ui_at, pk_un (by decide), zz_ui_at, pk_un (by decide), zz_ui_at, pk_un (by decide)]; exact f2
        · rw [zz_ui_at, pk_un (by decide), zz_ui_at, pk_un (by decide), zz_ui_at, pk_us]
        · rw [zz_ui_at, pk_un (by decide), zz_ui_at, pk_us]
        · rw [zz_ui_at, pk_us]
        · rw [zz_ui_ne _ _ _ (by decide), zz_ui_ne _ _ _ (by decide), zz_ui_ne _ _ _ (by decide)]; exact f3 w hw hb
      · exact absurd (Int32.le_refl _) h
    | succ q ih =>
      intro v Ix hv f1 f2 f3
      have hle := fb_ct_le (bl x) v
      have e1 : (jv_lushr x (nI v) &&& 1 = 0) ↔ bl x v = false := by rw [low1L, bl_ushr0 x (by omega)]
      refine zz_iload rfl dX0_keep_8 ?_
      refine zz_bipush (v := 64) (by decide) dX0_keep_10 ?_
      try dsimp only [zz_s1, zz_s2, zz_kill, zz_ent, zz_fl, List.set_cons_zero, List.set_cons_succ, List.getElem?_cons_zero, List.getElem?_cons_succ, Option.toList_some, Option.toList_none, List.cons_append, List.nil_append, List.append_nil, List.length_cons, List.length_nil, List.replicate_succ, List.replicate_zero, Nat.reduceAdd, Nat.reduceSub]
      refine zz_icmp_ge (tgt := 53) dX0_keep_12 (by decide) (fun h => ?_) (fun h => ?_)
      · exact absurd h (nI_ge (b := 64) (by omega) (by decide))
      · skip
        refine zz_lload_n rfl dX0_keep_15 ?_
        refine zz_iload rfl dX0_keep_16 ?_
        refine zz_lushr dX0_keep_18 ?_
        refine zz_lconst (v := 1) (by decide) dX0_keep_19 ?_
        refine zz_land dX0_keep_20 ?_
        refine zz_lconst (v := 0) (by decide) dX0_keep_21 ?_
        refine zz_lcmp dX0_keep_22 ?_
        try dsimp only [zz_s1, zz_s2, zz_kill, zz_ent, zz_fl, List.set_cons_zero, List.set_cons_succ, List.getElem?_cons_zero, List.getElem?_cons_succ, Option.toList_some, Option.toList_none, List.cons_append, List.nil_append, List.append_nil, List.length_cons, List.length_nil, List.replicate_succ, List.replicate_zero, Nat.reduceAdd, Nat.reduceSub]
        refine zz_if_eq (tgt := 47) dX0_keep_23 (by decide) (fun h2 => ?_) (fun h2 => ?_)
        · have hb : bl x v = false := e1.mp (cmp_eq.mp h2)
          refine zz_iinc dX0_keep_47 rfl (congrArg (HAdd.hAdd _) (show Int32.ofInt 1 = 1 by decide)) (by decide) ?_
          refine zz_goto (tgt := 8) dX0_keep_50 (by decide) ?_
          try dsimp only [zz_s1, zz_s2, zz_kill, zz_ent, zz_fl, List.set_cons_zero, List.set_cons_succ, List.getElem?_cons_zero, List.getElem?_cons_succ, Option.toList_some, Option.toList_none, List.cons_append, List.nil_append, List.append_nil, List.length_cons, List.length_nil, List.replicate_succ, List.replicate_zero, Nat.reduceAdd, Nat.reduceSub]
          rw [nI_1]
          refine ih (v + 1) Ix (by omega) f1 (by rw [fb_ct_succ, hb]; exact f2) (fun w hw hw2 => f3 w ?_ hw2)
          have : w ≠ v := fun e => by rw [e, hb] at hw2; cases hw2
          omega
        · skip
          have hb : bl x v = true := by
            cases z : bl x v with
            | true => rfl
            | false => exact absurd (cmp_eq.mpr (e1.mpr z)) h2
          refine zz_aload_n rfl dX0_keep_26 ?_
          refine zz_getr dX0_keep_27 fX0_9 (fun _ _ _ _ => rfl) (os_24 hO) (or_24_0 hO) ?_
          refine zz_aload_n rfl dX0_keep_30 ?_
          refine zz_geti dX0_keep_31 fX0_15 rfl (os_24 hO) ?_
          refine zz_iload rfl dX0_keep_34 ?_
          refine zz_iast dX0_keep_36 (os_25 hO) (by rw [f2]; exact vp_in_nI (by omega) (by decide)) ?_
          refine zz_aload_n rfl dX0_keep_37 ?_
          refine zz_dup rfl dX0_keep_38 ?_
          refine zz_geti dX0_keep_39 fX0_15 rfl (os_24 hO) ?_
          refine zz_iconst (v := 1) (by decide) dX0_keep_42 ?_
          refine zz_iadd dX0_keep_43 ?_
          refine zz_puti dX0_keep_44 fX0_15 rfl (fun q h => by cases h; rfl) (os_24 hO) ?_
          refine zz_iinc dX0_keep_47 rfl (congrArg (HAdd.hAdd _) (show Int32.ofInt 1 = 1 by decide)) (by decide) ?_
          refine zz_goto (tgt := 8) dX0_keep_50 (by decide) ?_
          try dsimp only [zz_s1, zz_s2, zz_kill, zz_ent, zz_fl, List.set_cons_zero, List.set_cons_succ, List.getElem?_cons_zero, List.getElem?_cons_succ, Option.toList_some, Option.toList_none, List.cons_append, List.nil_append, List.append_nil, List.length_cons, List.length_nil, List.replicate_succ, List.replicate_zero, Nat.reduceAdd, Nat.reduceSub]
          rw [nI_1, f2, nI_clamp (by omega), zz_ui_ne _ _ _ (by decide), f2, nI_1]
          refine ih (v + 1) _ (by omega) (fun c c1 c2 => ?_) ?_ (fun w hw hw2 => ?_)
          · rw [zz_ui_ne _ _ _ c1, zz_ui_ne _ _ _ c2]; exact f1 c c1 c2
          · rw [zz_ui_at, pk_us, fb_ct_succ, if_pos hb]
          · rw [zz_ui_ne _ _ _ (by decide), zz_ui_at]
            by_cases e : w = v
            · rw [e, pk_us]
            · have hlt : fb_ct (bl x) w < fb_ct (bl x) v := by
                have h1 : fb_ct (bl x) (w + 1) ≤ fb_ct (bl x) v := fb_ct_mono _ (by omega)
                rw [fb_ct_succ, if_pos hw2] at h1
                omega
              rw [pk_un (by omega)]
              exact f3 w (by omega) hw2
  refine loop 64 0 _ (by omega) (fun c c1 _ => ?_) ?_ (fun w hw => by omega)
  · rw [zz_ui_ne _ _ _ c1]
  · rw [zz_ui_at, pk_us]; rfl
theorem al_pos {N : Nat → Nat → Bool} {W : Nat} (hW1 : 1 ≤ W) (hW : W ≤ 64) : 1 ≤ al N 64 (ltW W) := by
  have h1 : al N 64 (fun i => decide (i = 0)) ≤ al N 64 (ltW W) := al_mono (fun w _ hw => by unfold ltW; simp at *; omega)
  have h2 : al N 64 (fun i => decide (i = 0)) = fb_ct (fun i => decide (i = 0)) 64 := al_ind (fun x y hx hy hne => by simp at hx hy; omega)
  have h3 : fb_ct (fun i => decide (i = 0)) 64 = 1 := by decide
  omega
/-- the code that most keeps -/
def cds (n : Nat) (E : Nat → Nat → Bool) (k : Nat) : Nat → Bool := (gd (tkB n E k) (n ^ k) (al (tkB n E k) 64 (ltW (n ^ k))) (n ^ k)).2
theorem sp_X9_most (d : Nat) (hO : OK M) {l K : Int32} (hn : ∀ j, j < 8 → 1 ≤ n j ∧ n j ≤ 24) (hE : ∀ j, j < 8 → wfE (n j) (E j)) (hC : ∀ j, j < 8 → CL I j (n j) (kd j) (ag j) (E j) (sg j) (rw j))
    (h1 : ∀ j k, j < 8 → 1 ≤ k → k ≤ 6 → n j ^ k ≤ 64 → l = nI j → K = nI k → ∀ (I' : zz_I) (J' : zz_J), (∀ c, c ≠ 8 → c ≠ 24 → c ≠ 25 → I' c = I c) → (∀ c, c ≠ 8 → c ≠ 9 → J' c = J c) → I' 24 1 = nI (fb_ct (cds (n j) (E j) k) 64) → I' 24 2 = nI k → I' 24 3 = nI j → I' 24 4 = ag j → (∀ v, v < 64 → cds (n j) (E j) k v = true → I' 25 (fb_ct (cds (n j) (E j) k) v) = nI v) → Q (some (.int (nI (fb_ct (cds (n j) (E j) k) 64)))) M I' J')
    (h2 : ∀ j k, j < 8 → 1 ≤ k → k ≤ 6 → ¬ n j ^ k ≤ 64 → l = nI j → K = nI k → Q (some (.int (-3))) M I J)
    (h3 : ¬ (∃ j k, j < 8 ∧ 1 ≤ k ∧ k ≤ 6 ∧ l = nI j ∧ K = nI k) → Q (some (.int (-2))) M I J) : zz_D mX9_most (d + 71) [.ref 1, .int l, .int K] M I J Q := by
  refine zz_D_of rfl (Nat.le_of_ble_eq_true rfl) ?_
  try dsimp only [zz_s1, zz_s2, zz_kill, zz_ent, zz_fl, List.set_cons_zero, List.set_cons_succ, List.getElem?_cons_zero, List.getElem?_cons_succ, Option.toList_some, Option.toList_none, List.cons_append, List.nil_append, List.append_nil, List.length_cons, List.length_nil, List.replicate_succ, List.replicate_zero, Nat.reduceAdd, Nat.reduceSub]
  refine zz_aload_n rfl dX9_most_0 ?_
  refine zz_iload_n rfl dX9_most_1 ?_
  try dsimp only [zz_s1, zz_s2, zz_kill, zz_ent, zz_fl, List.set_cons_zero, List.set_cons_succ, List.getElem?_cons_zero, List.getElem?_cons_succ, Option.toList_some, Option.toList_none, List.cons_append, List.nil_append, List.append_nil, List.length_cons, List.length_nil, List.replicate_succ, List.replicate_zero, Nat.reduceAdd, Nat.reduceSub]
  refine zz_cV1 dX9_most_2 lX9_100 rfl (os_1 hO) rfl rfl (Nat.le_of_ble_eq_true rfl) (Nat.le_of_ble_eq_true rfl) ?_
  refine sp_lineAt (d + 70) hO (fun j hj e => ?_) (fun hv => ?_)
  try dsimp only [zz_s1, zz_s2, zz_kill, zz_ent, zz_fl, List.set_cons_zero, List.set_cons_succ, List.getElem?_cons_zero, List.getElem?_cons_succ, Option.toList_some, Option.toList_none, List.cons_append, List.nil_append, List.append_nil, List.length_cons, List.length_nil, List.replicate_succ, List.replicate_zero, Nat.reduceAdd, Nat.reduceSub]
  · skip
    have hc := hC j hj
    have hnj := hn j hj
    have hL8 : 26 < LN j := by unfold LN; omega
    refine zz_astore_n dX9_most_5 (by decide) ?_
    refine zz_aload_n rfl dX9_most_6 ?_
    try dsimp only [zz_s1, zz_s2, zz_kill, zz_ent, zz_fl, List.set_cons_zero, List.set_cons_succ, List.getElem?_cons_zero, List.getElem?_cons_succ, Option.toList_some, Option.toList_none, List.cons_append, List.nil_append, List.append_nil, List.length_cons, List.length_nil, List.replicate_succ, List.replicate_zero, Nat.reduceAdd, Nat.reduceSub]
    refine zz_ifnull dX9_most_7 ?_
    try dsimp only [zz_s1, zz_s2, zz_kill, zz_ent, zz_fl, List.set_cons_zero, List.set_cons_succ, List.getElem?_cons_zero, List.getElem?_cons_succ, Option.toList_some, Option.toList_none, List.cons_append, List.nil_append, List.append_nil, List.length_cons, List.length_nil, List.replicate_succ, List.replicate_zero, Nat.reduceAdd, Nat.reduceSub]
    refine zz_iload_n rfl dX9_most_10 ?_
    try dsimp only [zz_s1, zz_s2, zz_kill, zz_ent, zz_fl, List.set_cons_zero, List.set_cons_succ, List.getElem?_cons_zero, List.getElem?_cons_succ, Option.toList_some, Option.toList_none, List.cons_append, List.nil_append, List.append_nil, List.length_cons, List.length_nil, List.replicate_succ, List.replicate_zero, Nat.reduceAdd, Nat.reduceSub]
    refine zz_cS1 dX9_most_11 lX9_169 rfl (Nat.le_of_ble_eq_true rfl) (Nat.le_of_ble_eq_true rfl) ?_
    refine sp_isLength (d + 70) (fun r hr => ?_)
    try dsimp only [zz_s1, zz_s2, zz_kill, zz_ent, zz_fl, List.set_cons_zero, List.set_cons_succ, List.getElem?_cons_zero, List.getElem?_cons_succ, Option.toList_some, Option.toList_none, List.cons_append, List.nil_append, List.append_nil, List.length_cons, List.length_nil, List.replicate_succ, List.replicate_zero, Nat.reduceAdd, Nat.reduceSub]
    refine zz_if_ne (tgt := 20) dX9_most_14 (by decide) (fun q1 => ?_) (fun q1 => ?_)
    rotate_left
    · refine zz_bipush (v := (-2)) (by decide) dX9_most_17 ?_
      refine zz_ireturn dX9_most_19 rfl (by first | rfl | decide | assumption) ?_
      refine h3 (fun ⟨j', k, a1, a2, a3, a4, a5⟩ => hr.f q1 ?_)
      rw [a5]
      exact ⟨nI_le (a := 1) a2 (by omega), nI_le (b := 6) a3 (by decide)⟩
    obtain ⟨z1, z2⟩ := hr.t q1
    obtain ⟨k, hk6, rfl⟩ := nI_of2 (n := 6) (M := 6) rfl (fun q => Int32.not_lt.mpr z1 (Int32.lt_trans q (by decide))) z2
    have hk1 : 1 ≤ k := Nat.le_of_not_lt fun q => by rw [show k = 0 by omega] at z1; exact absurd z1 (by decide)
    have hpw := pow_le6 hnj.2 hk6
    refine zz_aload_n rfl dX9_most_20 ?_
    refine zz_geti dX9_most_21 fX9_144 rfl (ol_obj hO hj) ?_
    refine zz_iload_n rfl dX9_most_24 ?_
    try dsimp only [zz_s1, zz_s2, zz_kill, zz_ent, zz_fl, List.set_cons_zero, List.set_cons_succ, List.getElem?_cons_zero, List.getElem?_cons_succ, Option.toList_some, Option.toList_none, List.cons_append, List.nil_append, List.append_nil, List.length_cons, List.length_nil, List.replicate_succ, List.replicate_zero, Nat.reduceAdd, Nat.reduceSub]
    rw [hc.2.1]
    refine zz_cS2 dX9_most_25 lX9_172 rfl (Nat.le_of_ble_eq_true rfl) (Nat.le_of_ble_eq_true rfl) ?_
    refine sp_wordsInAll (d + 70) hnj.1 hnj.2 hk6 ?_
    try dsimp only [zz_s1, zz_s2, zz_kill, zz_ent, zz_fl, List.set_cons_zero, List.set_cons_succ, List.getElem?_cons_zero, List.getElem?_cons_succ, Option.toList_some, Option.toList_none, List.cons_append, List.nil_append, List.append_nil, List.length_cons, List.length_nil, List.replicate_succ, List.replicate_zero, Nat.reduceAdd, Nat.reduceSub]
    refine zz_bipush (v := 64) (by decide) dX9_most_28 ?_
    try dsimp only [zz_s1, zz_s2, zz_kill, zz_ent, zz_fl, List.set_cons_zero, List.set_cons_succ, List.getElem?_cons_zero, List.getElem?_cons_succ, Option.toList_some, Option.toList_none, List.cons_append, List.nil_append, List.append_nil, List.length_cons, List.length_nil, List.replicate_succ, List.replicate_zero, Nat.reduceAdd, Nat.reduceSub]
    refine zz_icmp_le (tgt := 36) dX9_most_30 (by decide) (fun q2 => ?_) (fun q2 => ?_)
    rotate_left
    · refine zz_bipush (v := (-3)) (by decide) dX9_most_33 ?_
      refine zz_ireturn dX9_most_35 rfl (by first | rfl | decide | assumption) ?_
      exact h2 j k hj hk1 hk6 (fun z => q2 (nI_le (b := 64) z (by decide))) e rfl
    have h64 : n j ^ k ≤ 64 := (nI_leI (b := 64) (by omega) (by decide)).mp q2
    have hp1 : 1 ≤ n j ^ k := Nat.pow_pos (by omega)
    have rf := tkB_rf (n := n j) (E := E j) k
    have sy := tkB_sy (n := n j) (hE j hj) k
    refine zz_aload_n rfl dX9_most_36 ?_
    refine zz_getr dX9_most_37 fX9_36 (fun _ _ _ _ => rfl) (os_1 hO) (or_1_4 hO) ?_
    refine zz_aload_n rfl dX9_most_40 ?_
    refine zz_iload_n rfl dX9_most_41 ?_
    try dsimp only [zz_s1, zz_s2, zz_kill, zz_ent, zz_fl, List.set_cons_zero, List.set_cons_succ, List.getElem?_cons_zero, List.getElem?_cons_succ, Option.toList_some, Option.toList_none, List.cons_append, List.nil_append, List.append_nil, List.length_cons, List.length_nil, List.replicate_succ, List.replicate_zero, Nat.reduceAdd, Nat.reduceSub]
    refine zz_cV2 dX9_most_42 lX9_185 rfl (os_8 hO) rfl rfl (Nat.le_of_ble_eq_true rfl) (Nat.le_of_ble_eq_true rfl) ?_
    refine sp_X1_lay (d + 67) hO hj hnj.1 hnj.2 hc hk6 h64 (fun I1 J1 a1 a2 a3 a4 a5 => ?_)
    try dsimp only [zz_s1, zz_s2, zz_kill, zz_ent, zz_fl, List.set_cons_zero, List.set_cons_succ, List.getElem?_cons_zero, List.getElem?_cons_succ, Option.toList_some, Option.toList_none, List.cons_append, List.nil_append, List.append_nil, List.length_cons, List.length_nil, List.replicate_succ, List.replicate_zero, Nat.reduceAdd, Nat.reduceSub]
    refine zz_aload_n rfl dX9_most_45 ?_
    refine zz_getr dX9_most_46 fX9_36 (fun _ _ _ _ => rfl) (os_1 hO) (or_1_4 hO) ?_
    try dsimp only [zz_s1, zz_s2, zz_kill, zz_ent, zz_fl, List.set_cons_zero, List.set_cons_succ, List.getElem?_cons_zero, List.getElem?_cons_succ, Option.toList_some, Option.toList_none, List.cons_append, List.nil_append, List.append_nil, List.length_cons, List.length_nil, List.replicate_succ, List.replicate_zero, Nat.reduceAdd, Nat.reduceSub]
    refine zz_cV0 dX9_most_49 lX9_189 rfl (os_8 hO) rfl rfl (Nat.le_of_ble_eq_true rfl) (Nat.le_of_ble_eq_true rfl) ?_
    refine sp_findLargest (d + 1) hO h64 sy rf a5.nb a4 (fun I2 J2 b1 b2 b3 b4 b5 => ?_)
    try dsimp only [zz_s1, zz_s2, zz_kill, zz_ent, zz_fl, List.set_cons_zero, List.set_cons_succ, List.getElem?_cons_zero, List.getElem?_cons_succ, Option.toList_some, Option.toList_none, List.cons_append, List.nil_append, List.append_nil, List.length_cons, List.length_nil, List.replicate_succ, List.replicate_zero, Nat.reduceAdd, Nat.reduceSub]
    refine zz_pop rfl dX9_most_52 ?_
    refine zz_aload_n rfl dX9_most_53 ?_
    refine zz_getr dX9_most_54 fX9_71 (fun _ _ _ _ => rfl) (os_1 hO) (or_1_9 hO) ?_
    refine zz_aload_n rfl dX9_most_57 ?_
    refine zz_getr dX9_most_58 fX9_36 (fun _ _ _ _ => rfl) (os_1 hO) (or_1_4 hO) ?_
    try dsimp only [zz_s1, zz_s2, zz_kill, zz_ent, zz_fl, List.set_cons_zero, List.set_cons_succ, List.getElem?_cons_zero, List.getElem?_cons_succ, Option.toList_some, Option.toList_none, List.cons_append, List.nil_append, List.append_nil, List.length_cons, List.length_nil, List.replicate_succ, List.replicate_zero, Nat.reduceAdd, Nat.reduceSub]
    have hN2 : NB J2 (n j ^ k) (tkB (n j) (E j) k) := fun v hv w hw => by rw [b3 9 (by decide)]; exact a5.nb v hv w hw
    refine zz_cV0 dX9_most_61 lX9_192 rfl (os_8 hO) rfl rfl (Nat.le_of_ble_eq_true rfl) (Nat.le_of_ble_eq_true rfl) ?_
    refine sp_leastLargest d hO h64 sy rf hN2 (by rw [b2 1 (by decide) (by decide)]; exact a4) rfl (al_pos hp1 h64) b4 b5 (fun I3 J3 x c1 c2 c3 => ?_)
    try dsimp only [zz_s1, zz_s2, zz_kill, zz_ent, zz_fl, List.set_cons_zero, List.set_cons_succ, List.getElem?_cons_zero, List.getElem?_cons_succ, Option.toList_some, Option.toList_none, List.cons_append, List.nil_append, List.append_nil, List.length_cons, List.length_nil, List.replicate_succ, List.replicate_zero, Nat.reduceAdd, Nat.reduceSub]
    have e3 : ∀ c, c ≠ 8 → I3 c = I c := fun c hc => by rw [c1 c hc, b1 c hc, a1 c hc]
    refine zz_iload_n rfl dX9_most_64 ?_
    refine zz_iload_n rfl dX9_most_65 ?_
    refine zz_aload_n rfl dX9_most_66 ?_
    refine zz_geti dX9_most_67 fX9_196 rfl (ol_obj hO hj) ?_
    try dsimp only [zz_s1, zz_s2, zz_kill, zz_ent, zz_fl, List.set_cons_zero, List.set_cons_succ, List.getElem?_cons_zero, List.getElem?_cons_succ, Option.toList_some, Option.toList_none, List.cons_append, List.nil_append, List.append_nil, List.length_cons, List.length_nil, List.replicate_succ, List.replicate_zero, Nat.reduceAdd, Nat.reduceSub]
    rw [e3 _ (by omega), hc.2.2.1]
    refine zz_cV4 dX9_most_70 lX9_199 rfl (os_24 hO) rfl rfl (Nat.le_of_ble_eq_true rfl) (Nat.le_of_ble_eq_true rfl) ?_
    refine sp_keep (d + 70) hO (fun I4 g1 g2 g3 g4 g5 g6 => ?_)
    try dsimp only [zz_s1, zz_s2, zz_kill, zz_ent, zz_fl, List.set_cons_zero, List.set_cons_succ, List.getElem?_cons_zero, List.getElem?_cons_succ, Option.toList_some, Option.toList_none, List.cons_append, List.nil_append, List.append_nil, List.length_cons, List.length_nil, List.replicate_succ, List.replicate_zero, Nat.reduceAdd, Nat.reduceSub]
    have c3 : bl x = cds (n j) (E j) k := c3
    rw [c3] at g2 g6
    refine zz_aload_n rfl dX9_most_73 ?_
    refine zz_getr dX9_most_74 fX9_71 (fun _ _ _ _ => rfl) (os_1 hO) (or_1_9 hO) ?_
    refine zz_geti dX9_most_77 fX9_203 rfl (os_24 hO) ?_
    refine zz_ireturn dX9_most_80 rfl (by first | rfl | decide | assumption) ?_
    rw [g2]
    exact h1 j k hj hk1 hk6 h64 e rfl I4 J3 (fun c d1 d2 d3 => by rw [g1 c d2 d3]; exact e3 c d1) (fun c d1 d2 => by rw [c2 c d1, b3 c d1, a3 c d2]) g2 g3 (by rw [g4, e]) g5 g6
  · try dsimp only [zz_s1, zz_s2, zz_kill, zz_ent, zz_fl, List.set_cons_zero, List.set_cons_succ, List.getElem?_cons_zero, List.getElem?_cons_succ, Option.toList_some, Option.toList_none, List.cons_append, List.nil_append, List.append_nil, List.length_cons, List.length_nil, List.replicate_succ, List.replicate_zero, Nat.reduceAdd, Nat.reduceSub]
    refine zz_nstore_n dX9_most_5 (by decide) ?_
    refine zz_nload_n rfl dX9_most_6 ?_
    try dsimp only [zz_s1, zz_s2, zz_kill, zz_ent, zz_fl, List.set_cons_zero, List.set_cons_succ, List.getElem?_cons_zero, List.getElem?_cons_succ, Option.toList_some, Option.toList_none, List.cons_append, List.nil_append, List.append_nil, List.length_cons, List.length_nil, List.replicate_succ, List.replicate_zero, Nat.reduceAdd, Nat.reduceSub]
    refine zz_ifnullN (tgt := 17) dX9_most_7 (by decide) ?_
    refine zz_bipush (v := (-2)) (by decide) dX9_most_17 ?_
    refine zz_ireturn dX9_most_19 rfl (by first | rfl | decide | assumption) ?_
    exact h3 (fun ⟨j', k, a1, a2, a3, a4, a5⟩ => hv (by rw [a4]; exact vp_in_nI a1 (by decide)))
end PMost

