/-! ===== ways: the calls ===== -/
def WS (M : zz_M) (W : Nat) (N : Nat → Nat → Bool) (c : Nat) : Prop := ∀ (d : Nat) (I : zz_I) (J : zz_J) (Q : zz_Q) (set : Int64) (need : Nat), NR J W N → sb set W → fb_ct (bl set) 64 ≤ c → need ≤ 64 → Q (some (.int (nI (cn N 64 (bl set) need)))) M I J → zz_D mX10_waysOf (d + c + 1) [.ref 259, .long set, .int (nI need)] M I J Q
section PWays
variable {M : zz_M} {W : Nat} {N : Nat → Nat → Bool}
theorem WS_body (hO : OK M) (hW : W ≤ 64) (sy : ∀ x y, N x y = N y x) (rf : ∀ x, N x x = true) (c : Nat) (rec : ∀ c', c = c' + 1 → WS M W N c') : WS M W N c := by
  intro d I J Q set need hN hs hc hneed hQ
  have hct := ct64 set
  refine zz_D_of rfl (Nat.le_of_ble_eq_true rfl) ?_
  try dsimp only [zz_s1, zz_s2, zz_kill, zz_ent, zz_fl, List.set_cons_zero, List.set_cons_succ, List.getElem?_cons_zero, List.getElem?_cons_succ, Option.toList_some, Option.toList_none, List.cons_append, List.nil_append, List.append_nil, List.length_cons, List.length_nil, List.replicate_succ, List.replicate_zero, Nat.reduceAdd, Nat.reduceSub]
  refine zz_iload_n rfl dX10_waysOf_0 ?_
  try dsimp only [zz_s1, zz_s2, zz_kill, zz_ent, zz_fl, List.set_cons_zero, List.set_cons_succ, List.getElem?_cons_zero, List.getElem?_cons_succ, Option.toList_some, Option.toList_none, List.cons_append, List.nil_append, List.append_nil, List.length_cons, List.length_nil, List.replicate_succ, List.replicate_zero, Nat.reduceAdd, Nat.reduceSub]
  cases need with
  | zero =>
    refine zz_if_ne (tgt := 6) dX10_waysOf_1 (by decide) (fun h => ?_) (fun h => ?_)
    · exact absurd rfl h
    · skip
      refine zz_iconst (v := 1) (by decide) dX10_waysOf_4 ?_
      refine zz_ireturn dX10_waysOf_5 rfl (by first | rfl | decide | assumption) ?_
      rw [cn_0] at hQ
      exact hQ
  | succ need =>
    refine zz_if_ne (tgt := 6) dX10_waysOf_1 (by decide) (fun h => ?_) (fun h => ?_)
    rotate_left
    · exact absurd h (nI_ne0 (by omega) (by omega))
    refine zz_lload_n rfl dX10_waysOf_6 ?_
    try dsimp only [zz_s1, zz_s2, zz_kill, zz_ent, zz_fl, List.set_cons_zero, List.set_cons_succ, List.getElem?_cons_zero, List.getElem?_cons_succ, Option.toList_some, Option.toList_none, List.cons_append, List.nil_append, List.append_nil, List.length_cons, List.length_nil, List.replicate_succ, List.replicate_zero, Nat.reduceAdd, Nat.reduceSub]
    refine zz_cS1 dX10_waysOf_7 lX10_139 rfl (Nat.le_of_ble_eq_true rfl) (Nat.le_of_ble_eq_true rfl) ?_
    refine sp_bits (d + c) ?_
    try dsimp only [zz_s1, zz_s2, zz_kill, zz_ent, zz_fl, List.set_cons_zero, List.set_cons_succ, List.getElem?_cons_zero, List.getElem?_cons_succ, Option.toList_some, Option.toList_none, List.cons_append, List.nil_append, List.append_nil, List.length_cons, List.length_nil, List.replicate_succ, List.replicate_zero, Nat.reduceAdd, Nat.reduceSub]
    refine zz_iload_n rfl dX10_waysOf_10 ?_
    try dsimp only [zz_s1, zz_s2, zz_kill, zz_ent, zz_fl, List.set_cons_zero, List.set_cons_succ, List.getElem?_cons_zero, List.getElem?_cons_succ, Option.toList_some, Option.toList_none, List.cons_append, List.nil_append, List.append_nil, List.length_cons, List.length_nil, List.replicate_succ, List.replicate_zero, Nat.reduceAdd, Nat.reduceSub]
    refine zz_icmp_ge (tgt := 16) dX10_waysOf_11 (by decide) (fun h2 => ?_) (fun h2 => ?_)
    rotate_left
    · refine zz_iconst (v := 0) (by decide) dX10_waysOf_14 ?_
      refine zz_ireturn dX10_waysOf_15 rfl (by first | rfl | decide | assumption) ?_
      have h2' : fb_ct (bl set) 64 < need + 1 := Nat.lt_of_not_le fun z => h2 (nI_le z (by omega))
      have h0 : cn N 64 (bl set) (need + 1) = 0 := cn_big (Nat.lt_of_le_of_lt al_ct h2')
      rw [h0] at hQ
      exact hQ
    have h2' : need + 1 ≤ fb_ct (bl set) 64 := (nI_leI (by omega) (by omega)).mp h2
    have hne : ¬ set = 0 := fun z => by rw [z, show fb_ct (bl 0) 64 = 0 from fb_ct_zero.mpr (fun i _ => bl_0 i)] at h2'; omega
    obtain ⟨v, hv, hl⟩ := lowb_ex hne
    have hvW := hs v hl.1
    have hcv := ct_rm hv hl.1
    have hbr : cn N 64 (bl set) (need + 1) = cn N 64 (rm (bl set) v) (need + 1) + cn N 64 (mi (bl set) (N v)) need := cn_br sy rf hv hl.1
    have eb : bl (set &&& (J 269 v ^^^ (-1)) &&& (jv_lshl 1 (nI v) ^^^ (-1))) = mi (bl set) (N v) := by
      rw [br1 _ hv, bm]
      funext w
      rw [Bool.eq_iff_iff, rm_t, mi_t, mi_t]
      by_cases hw : bl set w = true
      · have hwW := hs w hw
        rw [hN v hvW w]
        by_cases e : w = v
        · subst e; simp [rf]
        · simp [hw, e, hwW]
      · simp [hw]
    have cm1 : fb_ct (mi (bl set) (N v)) 64 < fb_ct (bl set) 64 := ct_lt hv (fun w hw => (mi_t.mp hw).1) (by unfold mi; rw [rf]; simp) hl.1
    obtain ⟨c', rfl⟩ : ∃ c', c = c' + 1 := ⟨c - 1, by omega⟩
    refine zz_lload_n rfl dX10_waysOf_16 ?_
    try dsimp only [zz_s1, zz_s2, zz_kill, zz_ent, zz_fl, List.set_cons_zero, List.set_cons_succ, List.getElem?_cons_zero, List.getElem?_cons_succ, Option.toList_some, Option.toList_none, List.cons_append, List.nil_append, List.append_nil, List.length_cons, List.length_nil, List.replicate_succ, List.replicate_zero, Nat.reduceAdd, Nat.reduceSub]
    refine zz_cS1 dX10_waysOf_17 lX10_157 rfl (Nat.le_of_ble_eq_true rfl) (Nat.le_of_ble_eq_true rfl) ?_
    refine sp_X10_lowest (d + (c' + 1)) hl ?_
    try dsimp only [zz_s1, zz_s2, zz_kill, zz_ent, zz_fl, List.set_cons_zero, List.set_cons_succ, List.getElem?_cons_zero, List.getElem?_cons_succ, Option.toList_some, Option.toList_none, List.cons_append, List.nil_append, List.append_nil, List.length_cons, List.length_nil, List.replicate_succ, List.replicate_zero, Nat.reduceAdd, Nat.reduceSub]
    refine zz_istore dX10_waysOf_20 (by decide) ?_
    refine zz_aload_n rfl dX10_waysOf_22 ?_
    refine zz_lload_n rfl dX10_waysOf_23 ?_
    refine zz_aload_n rfl dX10_waysOf_24 ?_
    refine zz_getr dX10_waysOf_25 fX10_42 (fun _ _ _ _ => rfl) (os_259 hO) (or_259_12 hO) ?_
    refine zz_iload rfl dX10_waysOf_28 ?_
    refine zz_lald dX10_waysOf_30 (os_269 hO) (vp_in_nI hv (by decide)) ?_
    refine zz_ldc2 tX10_155 dX10_waysOf_31 ?_
    refine zz_lxor dX10_waysOf_34 ?_
    refine zz_land dX10_waysOf_35 ?_
    refine zz_lconst (v := 1) (by decide) dX10_waysOf_36 ?_
    refine zz_iload rfl dX10_waysOf_37 ?_
    refine zz_lshl dX10_waysOf_39 ?_
    refine zz_ldc2 tX10_155 dX10_waysOf_40 ?_
    refine zz_lxor dX10_waysOf_43 ?_
    refine zz_land dX10_waysOf_44 ?_
    refine zz_iload_n rfl dX10_waysOf_45 ?_
    refine zz_iconst (v := 1) (by decide) dX10_waysOf_46 ?_
    refine zz_isub dX10_waysOf_47 ?_
    try dsimp only [zz_s1, zz_s2, zz_kill, zz_ent, zz_fl, List.set_cons_zero, List.set_cons_succ, List.getElem?_cons_zero, List.getElem?_cons_succ, Option.toList_some, Option.toList_none, List.cons_append, List.nil_append, List.append_nil, List.length_cons, List.length_nil, List.replicate_succ, List.replicate_zero, Nat.reduceAdd, Nat.reduceSub]
    rw [nI_clamp (show v < 2 ^ 31 by omega), show nI (need + 1) - 1 = nI need from pk_sub (a := need + 1) (b := 1) (by omega)]
    refine zz_cV2 dX10_waysOf_48 lX10_181 rfl (os_259 hO) rfl rfl (Nat.le_of_ble_eq_true rfl) (Nat.le_of_ble_eq_true rfl) ?_
    refine rec c' rfl d I J _ _ need hN (fun w hw => hs w (by rw [eb, mi_t] at hw; exact hw.1)) (by rw [eb]; omega) (by omega) ?_
    try dsimp only [zz_s1, zz_s2, zz_kill, zz_ent, zz_fl, List.set_cons_zero, List.set_cons_succ, List.getElem?_cons_zero, List.getElem?_cons_succ, Option.toList_some, Option.toList_none, List.cons_append, List.nil_append, List.append_nil, List.length_cons, List.length_nil, List.replicate_succ, List.replicate_zero, Nat.reduceAdd, Nat.reduceSub]
    rw [eb]
    refine zz_aload_n rfl dX10_waysOf_51 ?_
    refine zz_lload_n rfl dX10_waysOf_52 ?_
    refine zz_lconst (v := 1) (by decide) dX10_waysOf_53 ?_
    refine zz_iload rfl dX10_waysOf_54 ?_
    refine zz_lshl dX10_waysOf_56 ?_
    refine zz_ldc2 tX10_155 dX10_waysOf_57 ?_
    refine zz_lxor dX10_waysOf_60 ?_
    refine zz_land dX10_waysOf_61 ?_
    refine zz_iload_n rfl dX10_waysOf_62 ?_
    try dsimp only [zz_s1, zz_s2, zz_kill, zz_ent, zz_fl, List.set_cons_zero, List.set_cons_succ, List.getElem?_cons_zero, List.getElem?_cons_succ, Option.toList_some, Option.toList_none, List.cons_append, List.nil_append, List.append_nil, List.length_cons, List.length_nil, List.replicate_succ, List.replicate_zero, Nat.reduceAdd, Nat.reduceSub]
    refine zz_cV2 dX10_waysOf_63 lX10_181 rfl (os_259 hO) rfl rfl (Nat.le_of_ble_eq_true rfl) (Nat.le_of_ble_eq_true rfl) ?_
    refine rec c' rfl d I J _ _ (need + 1) hN (fun w hw => hs w (by rw [br1 _ hv, rm_t] at hw; exact hw.1)) (by rw [br1 _ hv]; omega) (by omega) ?_
    try dsimp only [zz_s1, zz_s2, zz_kill, zz_ent, zz_fl, List.set_cons_zero, List.set_cons_succ, List.getElem?_cons_zero, List.getElem?_cons_succ, Option.toList_some, Option.toList_none, List.cons_append, List.nil_append, List.append_nil, List.length_cons, List.length_nil, List.replicate_succ, List.replicate_zero, Nat.reduceAdd, Nat.reduceSub]
    rw [br1 _ hv]
    refine zz_iadd dX10_waysOf_66 ?_
    refine zz_ireturn dX10_waysOf_67 rfl (by first | rfl | decide | assumption) ?_
    rw [hbr, Nat.add_comm] at hQ
    rw [nI_add]
    exact hQ
theorem sp_waysOf (hO : OK M) (hW : W ≤ 64) (sy : ∀ x y, N x y = N y x) (rf : ∀ x, N x x = true) : ∀ c, WS M W N c
  | 0 => WS_body hO hW sy rf 0 (fun c' h => by omega)
  | c + 1 => WS_body hO hW sy rf (c + 1) (fun c' h => by cases h; exact sp_waysOf hO hW sy rf c)
variable {I : zz_I} {J : zz_J} {Q : zz_Q} {n : Nat → Nat} {kd ag : Nat → Int32} {E : Nat → Nat → Nat → Bool} {sg : Nat → Nat → Int32} {rw : Nat → Nat → Nat → Int32}
theorem sp_X9_ways (d : Nat) (hO : OK M) {l K : Int32} (hn : ∀ j, j < 8 → 1 ≤ n j ∧ n j ≤ 24) (hE : ∀ j, j < 8 → wfE (n j) (E j)) (hC : ∀ j, j < 8 → CL I j (n j) (kd j) (ag j) (E j) (sg j) (rw j))
    (h1 : ∀ j k, j < 8 → 1 ≤ k → k ≤ 6 → n j ^ k ≤ 24 → l = nI j → K = nI k → ∀ (I' : zz_I) (J' : zz_J), (∀ c, c ≠ 8 → I' c = I c) → (∀ c, c ≠ 9 → J' c = J c) → Q (some (.int (nI (cx (tkB (n j) (E j) k) (ltW (n j ^ k)))))) M I' J')
    (h2 : ∀ j k, j < 8 → 1 ≤ k → k ≤ 6 → ¬ n j ^ k ≤ 24 → l = nI j → K = nI k → Q (some (.int (-3))) M I J)
    (h3 : ¬ (∃ j k, j < 8 ∧ 1 ≤ k ∧ k ≤ 6 ∧ l = nI j ∧ K = nI k) → Q (some (.int (-2))) M I J) : zz_D mX9_ways (d + 69) [.ref 1, .int l, .int K] M I J Q := by
  refine zz_D_of rfl (Nat.le_of_ble_eq_true rfl) ?_
  try dsimp only [zz_s1, zz_s2, zz_kill, zz_ent, zz_fl, List.set_cons_zero, List.set_cons_succ, List.getElem?_cons_zero, List.getElem?_cons_succ, Option.toList_some, Option.toList_none, List.cons_append, List.nil_append, List.append_nil, List.length_cons, List.length_nil, List.replicate_succ, List.replicate_zero, Nat.reduceAdd, Nat.reduceSub]
  refine zz_aload_n rfl dX9_ways_0 ?_
  refine zz_iload_n rfl dX9_ways_1 ?_
  try dsimp only [zz_s1, zz_s2, zz_kill, zz_ent, zz_fl, List.set_cons_zero, List.set_cons_succ, List.getElem?_cons_zero, List.getElem?_cons_succ, Option.toList_some, Option.toList_none, List.cons_append, List.nil_append, List.append_nil, List.length_cons, List.length_nil, List.replicate_succ, List.replicate_zero, Nat.reduceAdd, Nat.reduceSub]
  refine zz_cV1 dX9_ways_2 lX9_100 rfl (os_1 hO) rfl rfl (Nat.le_of_ble_eq_true rfl) (Nat.le_of_ble_eq_true rfl) ?_
  refine sp_lineAt (d + 68) hO (fun j hj e => ?_) (fun hv => ?_)
  try dsimp only [zz_s1, zz_s2, zz_kill, zz_ent, zz_fl, List.set_cons_zero, List.set_cons_succ, List.getElem?_cons_zero, List.getElem?_cons_succ, Option.toList_some, Option.toList_none, List.cons_append, List.nil_append, List.append_nil, List.length_cons, List.length_nil, List.replicate_succ, List.replicate_zero, Nat.reduceAdd, Nat.reduceSub]
  · skip
    have hc := hC j hj
    have hnj := hn j hj
    refine zz_astore_n dX9_ways_5 (by decide) ?_
    refine zz_aload_n rfl dX9_ways_6 ?_
    try dsimp only [zz_s1, zz_s2, zz_kill, zz_ent, zz_fl, List.set_cons_zero, List.set_cons_succ, List.getElem?_cons_zero, List.getElem?_cons_succ, Option.toList_some, Option.toList_none, List.cons_append, List.nil_append, List.append_nil, List.length_cons, List.length_nil, List.replicate_succ, List.replicate_zero, Nat.reduceAdd, Nat.reduceSub]
    refine zz_ifnull dX9_ways_7 ?_
    try dsimp only [zz_s1, zz_s2, zz_kill, zz_ent, zz_fl, List.set_cons_zero, List.set_cons_succ, List.getElem?_cons_zero, List.getElem?_cons_succ, Option.toList_some, Option.toList_none, List.cons_append, List.nil_append, List.append_nil, List.length_cons, List.length_nil, List.replicate_succ, List.replicate_zero, Nat.reduceAdd, Nat.reduceSub]
    refine zz_iload_n rfl dX9_ways_10 ?_
    try dsimp only [zz_s1, zz_s2, zz_kill, zz_ent, zz_fl, List.set_cons_zero, List.set_cons_succ, List.getElem?_cons_zero, List.getElem?_cons_succ, Option.toList_some, Option.toList_none, List.cons_append, List.nil_append, List.append_nil, List.length_cons, List.length_nil, List.replicate_succ, List.replicate_zero, Nat.reduceAdd, Nat.reduceSub]
    refine zz_cS1 dX9_ways_11 lX9_169 rfl (Nat.le_of_ble_eq_true rfl) (Nat.le_of_ble_eq_true rfl) ?_
    refine sp_isLength (d + 68) (fun r hr => ?_)
    try dsimp only [zz_s1, zz_s2, zz_kill, zz_ent, zz_fl, List.set_cons_zero, List.set_cons_succ, List.getElem?_cons_zero, List.getElem?_cons_succ, Option.toList_some, Option.toList_none, List.cons_append, List.nil_append, List.append_nil, List.length_cons, List.length_nil, List.replicate_succ, List.replicate_zero, Nat.reduceAdd, Nat.reduceSub]
    refine zz_if_ne (tgt := 20) dX9_ways_14 (by decide) (fun q1 => ?_) (fun q1 => ?_)
    rotate_left
    · refine zz_bipush (v := (-2)) (by decide) dX9_ways_17 ?_
      refine zz_ireturn dX9_ways_19 rfl (by first | rfl | decide | assumption) ?_
      refine h3 (fun ⟨j', k, a1, a2, a3, a4, a5⟩ => hr.f q1 ?_)
      rw [a5]
      exact ⟨nI_le (a := 1) a2 (by omega), nI_le (b := 6) a3 (by decide)⟩
    obtain ⟨z1, z2⟩ := hr.t q1
    obtain ⟨k, hk6, rfl⟩ := nI_of2 (n := 6) (M := 6) rfl (fun q => Int32.not_lt.mpr z1 (Int32.lt_trans q (by decide))) z2
    have hk1 : 1 ≤ k := Nat.le_of_not_lt fun q => by rw [show k = 0 by omega] at z1; exact absurd z1 (by decide)
    have hpw := pow_le6 hnj.2 hk6
    refine zz_aload_n rfl dX9_ways_20 ?_
    refine zz_geti dX9_ways_21 fX9_144 rfl (ol_obj hO hj) ?_
    refine zz_iload_n rfl dX9_ways_24 ?_
    try dsimp only [zz_s1, zz_s2, zz_kill, zz_ent, zz_fl, List.set_cons_zero, List.set_cons_succ, List.getElem?_cons_zero, List.getElem?_cons_succ, Option.toList_some, Option.toList_none, List.cons_append, List.nil_append, List.append_nil, List.length_cons, List.length_nil, List.replicate_succ, List.replicate_zero, Nat.reduceAdd, Nat.reduceSub]
    rw [hc.2.1]
    refine zz_cS2 dX9_ways_25 lX9_172 rfl (Nat.le_of_ble_eq_true rfl) (Nat.le_of_ble_eq_true rfl) ?_
    refine sp_wordsInAll (d + 68) hnj.1 hnj.2 hk6 ?_
    try dsimp only [zz_s1, zz_s2, zz_kill, zz_ent, zz_fl, List.set_cons_zero, List.set_cons_succ, List.getElem?_cons_zero, List.getElem?_cons_succ, Option.toList_some, Option.toList_none, List.cons_append, List.nil_append, List.append_nil, List.length_cons, List.length_nil, List.replicate_succ, List.replicate_zero, Nat.reduceAdd, Nat.reduceSub]
    refine zz_bipush (v := 24) (by decide) dX9_ways_28 ?_
    try dsimp only [zz_s1, zz_s2, zz_kill, zz_ent, zz_fl, List.set_cons_zero, List.set_cons_succ, List.getElem?_cons_zero, List.getElem?_cons_succ, Option.toList_some, Option.toList_none, List.cons_append, List.nil_append, List.append_nil, List.length_cons, List.length_nil, List.replicate_succ, List.replicate_zero, Nat.reduceAdd, Nat.reduceSub]
    refine zz_icmp_le (tgt := 36) dX9_ways_30 (by decide) (fun q2 => ?_) (fun q2 => ?_)
    rotate_left
    · refine zz_bipush (v := (-3)) (by decide) dX9_ways_33 ?_
      refine zz_ireturn dX9_ways_35 rfl (by first | rfl | decide | assumption) ?_
      exact h2 j k hj hk1 hk6 (fun z => q2 (nI_le (b := 24) z (by decide))) e rfl
    have h24 : n j ^ k ≤ 24 := (nI_leI (b := 24) (by omega) (by decide)).mp q2
    have rf := tkB_rf (n := n j) (E := E j) k
    have sy := tkB_sy (n := n j) (hE j hj) k
    refine zz_aload_n rfl dX9_ways_36 ?_
    refine zz_getr dX9_ways_37 fX9_36 (fun _ _ _ _ => rfl) (os_1 hO) (or_1_4 hO) ?_
    refine zz_aload_n rfl dX9_ways_40 ?_
    refine zz_iload_n rfl dX9_ways_41 ?_
    try dsimp only [zz_s1, zz_s2, zz_kill, zz_ent, zz_fl, List.set_cons_zero, List.set_cons_succ, List.getElem?_cons_zero, List.getElem?_cons_succ, Option.toList_some, Option.toList_none, List.cons_append, List.nil_append, List.append_nil, List.length_cons, List.length_nil, List.replicate_succ, List.replicate_zero, Nat.reduceAdd, Nat.reduceSub]
    refine zz_cV2 dX9_ways_42 lX9_185 rfl (os_8 hO) rfl rfl (Nat.le_of_ble_eq_true rfl) (Nat.le_of_ble_eq_true rfl) ?_
    refine sp_X1_lay (d + 65) hO hj hnj.1 hnj.2 hc hk6 (by omega) (fun I1 J1 a1 a2 a3 a4 a5 => ?_)
    try dsimp only [zz_s1, zz_s2, zz_kill, zz_ent, zz_fl, List.set_cons_zero, List.set_cons_succ, List.getElem?_cons_zero, List.getElem?_cons_succ, Option.toList_some, Option.toList_none, List.cons_append, List.nil_append, List.append_nil, List.length_cons, List.length_nil, List.replicate_succ, List.replicate_zero, Nat.reduceAdd, Nat.reduceSub]
    refine zz_aload_n rfl dX9_ways_45 ?_
    refine zz_getr dX9_ways_46 fX9_36 (fun _ _ _ _ => rfl) (os_1 hO) (or_1_4 hO) ?_
    try dsimp only [zz_s1, zz_s2, zz_kill, zz_ent, zz_fl, List.set_cons_zero, List.set_cons_succ, List.getElem?_cons_zero, List.getElem?_cons_succ, Option.toList_some, Option.toList_none, List.cons_append, List.nil_append, List.append_nil, List.length_cons, List.length_nil, List.replicate_succ, List.replicate_zero, Nat.reduceAdd, Nat.reduceSub]
    refine zz_cV0 dX9_ways_49 lX9_209 rfl (os_8 hO) rfl rfl (Nat.le_of_ble_eq_true rfl) (Nat.le_of_ble_eq_true rfl) ?_
    refine sp_countLargest d hO h24 sy rf a5.nb a4 ?_
    try dsimp only [zz_s1, zz_s2, zz_kill, zz_ent, zz_fl, List.set_cons_zero, List.set_cons_succ, List.getElem?_cons_zero, List.getElem?_cons_succ, Option.toList_some, Option.toList_none, List.cons_append, List.nil_append, List.append_nil, List.length_cons, List.length_nil, List.replicate_succ, List.replicate_zero, Nat.reduceAdd, Nat.reduceSub]
    refine zz_ireturn dX9_ways_52 rfl (by first | rfl | decide | assumption) ?_
    exact h1 j k hj hk1 hk6 h24 e rfl I1 J1 a1 a3
  · try dsimp only [zz_s1, zz_s2, zz_kill, zz_ent, zz_fl, List.set_cons_zero, List.set_cons_succ, List.getElem?_cons_zero, List.getElem?_cons_succ, Option.toList_some, Option.toList_none, List.cons_append, List.nil_append, List.append_nil, List.length_cons, List.length_nil, List.replicate_succ, List.replicate_zero, Nat.reduceAdd, Nat.reduceSub]
    refine zz_nstore_n dX9_ways_5 (by decide) ?_
    refine zz_nload_n rfl dX9_ways_6 ?_
    try dsimp only [zz_s1, zz_s2, zz_kill, zz_ent, zz_fl, List.set_cons_zero, List.set_cons_succ, List.getElem?_cons_zero, List.getElem?_cons_succ, Option.toList_some, Option.toList_none, List.cons_append, List.nil_append, List.append_nil, List.length_cons, List.length_nil, List.replicate_succ, List.replicate_zero, Nat.reduceAdd, Nat.reduceSub]
    refine zz_ifnullN (tgt := 17) dX9_ways_7 (by decide) ?_
    refine zz_bipush (v := (-2)) (by decide) dX9_ways_17 ?_
    refine zz_ireturn dX9_ways_19 rfl (by first | rfl | decide | assumption) ?_
    exact h3 (fun ⟨j', k, a1, a2, a3, a4, a5⟩ => hv (by rw [a4]; exact vp_in_nI a1 (by decide)))
theorem sp_X10_ways (d : Nat) (hO : OK M) {l K : Int32} (hn : ∀ j, j < 8 → 1 ≤ n j ∧ n j ≤ 24) (hE : ∀ j, j < 8 → wfE (n j) (E j)) (hC : ∀ j, j < 8 → ML I j (n j) (kd j) (ag j) (E j) (sg j) (rw j))
    (h1 : ∀ j k, j < 8 → 1 ≤ k → k ≤ 6 → n j ^ k ≤ 24 → l = nI j → K = nI k → ∀ (I' : zz_I) (J' : zz_J), (∀ c, c ≠ 259 → I' c = I c) → (∀ i, i ≠ 13 → I' 259 i = I 259 i) → (∀ c, c ≠ 269 → J' c = J c) → Q (some (.int (nI (cx (tkB (n j) (E j) k) (ltW (n j ^ k)))))) M I' J')
    (h2 : ∀ j k, j < 8 → 1 ≤ k → k ≤ 6 → ¬ n j ^ k ≤ 24 → l = nI j → K = nI k → Q (some (.int (-3))) M I J)
    (h3 : ¬ (∃ j k, j < 8 ∧ 1 ≤ k ∧ k ≤ 6 ∧ l = nI j ∧ K = nI k) → Q (some (.int (-2))) M I J) : zz_D mX10_ways (d + 68) [.ref 259, .int l, .int K] M I J Q := by
  refine zz_D_of rfl (Nat.le_of_ble_eq_true rfl) ?_
  try dsimp only [zz_s1, zz_s2, zz_kill, zz_ent, zz_fl, List.set_cons_zero, List.set_cons_succ, List.getElem?_cons_zero, List.getElem?_cons_succ, Option.toList_some, Option.toList_none, List.cons_append, List.nil_append, List.append_nil, List.length_cons, List.length_nil, List.replicate_succ, List.replicate_zero, Nat.reduceAdd, Nat.reduceSub]
  refine zz_iload_n rfl dX10_ways_0 ?_
  try dsimp only [zz_s1, zz_s2, zz_kill, zz_ent, zz_fl, List.set_cons_zero, List.set_cons_succ, List.getElem?_cons_zero, List.getElem?_cons_succ, Option.toList_some, Option.toList_none, List.cons_append, List.nil_append, List.append_nil, List.length_cons, List.length_nil, List.replicate_succ, List.replicate_zero, Nat.reduceAdd, Nat.reduceSub]
  have bad : ¬ (∃ j k, j < 8 ∧ 1 ≤ k ∧ k ≤ 6 ∧ l = nI j ∧ K = nI k) → zz_G mX10_ways (d + 68) 0 19 [some (.ref 259), some (.int l), some (.int K)] [] M I J Q := by
    intro hb
    refine zz_bipush (v := (-2)) (by decide) dX10_ways_19 ?_
    refine zz_ireturn dX10_ways_21 rfl (by first | rfl | decide | assumption) ?_
    exact h3 hb
  refine zz_cS1 dX10_ways_1 lX10_85 rfl (Nat.le_of_ble_eq_true rfl) (Nat.le_of_ble_eq_true rfl) ?_
  refine sp_isLine (d + 66) (fun r hr => ?_)
  try dsimp only [zz_s1, zz_s2, zz_kill, zz_ent, zz_fl, List.set_cons_zero, List.set_cons_succ, List.getElem?_cons_zero, List.getElem?_cons_succ, Option.toList_some, Option.toList_none, List.cons_append, List.nil_append, List.append_nil, List.length_cons, List.length_nil, List.replicate_succ, List.replicate_zero, Nat.reduceAdd, Nat.reduceSub]
  refine zz_if_eq (tgt := 19) dX10_ways_4 (by decide) (fun q0 => ?_) (fun q0 => ?_)
  · refine bad (fun ⟨j', k, a1, a2, a3, a4, a5⟩ => hr.f q0 (by rw [a4]; exact vp_in_nI a1 (by decide)))
  obtain ⟨j, hj, rfl⟩ := vp_in_of (hr.t q0) (by decide)
  have hc := hC j hj
  have hnj := hn j hj
  refine zz_iload_n rfl dX10_ways_7 ?_
  refine zz_i2l dX10_ways_8 ?_
  refine zz_lconst (v := 1) (by decide) dX10_ways_9 ?_
  refine zz_ldc2 tX10_143 dX10_ways_10 ?_
  try dsimp only [zz_s1, zz_s2, zz_kill, zz_ent, zz_fl, List.set_cons_zero, List.set_cons_succ, List.getElem?_cons_zero, List.getElem?_cons_succ, Option.toList_some, Option.toList_none, List.cons_append, List.nil_append, List.append_nil, List.length_cons, List.length_nil, List.replicate_succ, List.replicate_zero, Nat.reduceAdd, Nat.reduceSub]
  refine zz_cS3 dX10_ways_13 lX10_81 rfl (Nat.le_of_ble_eq_true rfl) (Nat.le_of_ble_eq_true rfl) ?_
  refine sp_in (d + 67) (fun r2 hr2 => ?_)
  try dsimp only [zz_s1, zz_s2, zz_kill, zz_ent, zz_fl, List.set_cons_zero, List.set_cons_succ, List.getElem?_cons_zero, List.getElem?_cons_succ, Option.toList_some, Option.toList_none, List.cons_append, List.nil_append, List.append_nil, List.length_cons, List.length_nil, List.replicate_succ, List.replicate_zero, Nat.reduceAdd, Nat.reduceSub]
  refine zz_if_ne (tgt := 22) dX10_ways_16 (by decide) (fun q1 => ?_) (fun q1 => ?_)
  rotate_left
  · refine zz_bipush (v := (-2)) (by decide) dX10_ways_19 ?_
    refine zz_ireturn dX10_ways_21 rfl (by first | rfl | decide | assumption) ?_
    exact h3 (fun ⟨j', k, a1, a2, a3, a4, a5⟩ => hr2.f q1 (in_6.mpr ⟨k, a2, a3, a5⟩))
  obtain ⟨k, hk1, hk6, rfl⟩ := in_6.mp (hr2.t q1)
  have hpw := pow_le6 hnj.2 hk6
  refine zz_aload_n rfl dX10_ways_22 ?_
  refine zz_iload_n rfl dX10_ways_23 ?_
  refine zz_iload_n rfl dX10_ways_24 ?_
  refine zz_bipush (v := 24) (by decide) dX10_ways_25 ?_
  try dsimp only [zz_s1, zz_s2, zz_kill, zz_ent, zz_fl, List.set_cons_zero, List.set_cons_succ, List.getElem?_cons_zero, List.getElem?_cons_succ, Option.toList_some, Option.toList_none, List.cons_append, List.nil_append, List.append_nil, List.length_cons, List.length_nil, List.replicate_succ, List.replicate_zero, Nat.reduceAdd, Nat.reduceSub]
  refine zz_cV3 dX10_ways_27 lX10_168 rfl (os_259 hO) rfl rfl (Nat.le_of_ble_eq_true rfl) (Nat.le_of_ble_eq_true rfl) ?_
  refine sp_spell (d + 64) hO (mo := 24) hj hnj.1 hnj.2 hc hk6 (by decide) (fun hno => ?_) (fun h24 J1 a1 a2 => ?_)
  try dsimp only [zz_s1, zz_s2, zz_kill, zz_ent, zz_fl, List.set_cons_zero, List.set_cons_succ, List.getElem?_cons_zero, List.getElem?_cons_succ, Option.toList_some, Option.toList_none, List.cons_append, List.nil_append, List.append_nil, List.length_cons, List.length_nil, List.replicate_succ, List.replicate_zero, Nat.reduceAdd, Nat.reduceSub]
  · refine zz_if_eq (tgt := 52) dX10_ways_30 (by decide) (fun q2 => ?_) (fun q2 => ?_)
    · refine zz_bipush (v := (-3)) (by decide) dX10_ways_52 ?_
      refine zz_ireturn dX10_ways_54 rfl (by first | rfl | decide | assumption) ?_
      exact h2 j k hj hk1 hk6 hno rfl rfl
    · exact absurd rfl q2
  try dsimp only [zz_s1, zz_s2, zz_kill, zz_ent, zz_fl, List.set_cons_zero, List.set_cons_succ, List.getElem?_cons_zero, List.getElem?_cons_succ, Option.toList_some, Option.toList_none, List.cons_append, List.nil_append, List.append_nil, List.length_cons, List.length_nil, List.replicate_succ, List.replicate_zero, Nat.reduceAdd, Nat.reduceSub]
  refine zz_if_eq (tgt := 52) dX10_ways_30 (by decide) (fun q2 => ?_) (fun q2 => ?_)
  · exact absurd q2 (by decide)
  have rf := tkB_rf (n := n j) (E := E j) k
  have sy := tkB_sy (n := n j) (hE j hj) k
  generalize hI1 : zz_ui I 259 13 (nI (n j ^ k)) = I1
  have e13 : I1 259 13 = nI (n j ^ k) := by rw [← hI1, zz_ui_at, pk_us]
  have e1 : ∀ c, c ≠ 259 → I1 c = I c := fun c h => by rw [← hI1, zz_ui_ne _ _ _ h]
  have e1' : ∀ i, i ≠ 13 → I1 259 i = I 259 i := fun i h => by rw [← hI1, zz_ui_at, pk_un h]
  refine zz_aload_n rfl dX10_ways_33 ?_
  refine zz_aload_n rfl dX10_ways_34 ?_
  try dsimp only [zz_s1, zz_s2, zz_kill, zz_ent, zz_fl, List.set_cons_zero, List.set_cons_succ, List.getElem?_cons_zero, List.getElem?_cons_succ, Option.toList_some, Option.toList_none, List.cons_append, List.nil_append, List.append_nil, List.length_cons, List.length_nil, List.replicate_succ, List.replicate_zero, Nat.reduceAdd, Nat.reduceSub]
  refine zz_cV0 dX10_ways_35 lX10_171 rfl (os_259 hO) rfl rfl (Nat.le_of_ble_eq_true rfl) (Nat.le_of_ble_eq_true rfl) ?_
  refine sp_all (d + 67) hO (show n j ^ k ≤ 64 by omega) e13 (fun x hx => ?_)
  try dsimp only [zz_s1, zz_s2, zz_kill, zz_ent, zz_fl, List.set_cons_zero, List.set_cons_succ, List.getElem?_cons_zero, List.getElem?_cons_succ, Option.toList_some, Option.toList_none, List.cons_append, List.nil_append, List.append_nil, List.length_cons, List.length_nil, List.replicate_succ, List.replicate_zero, Nat.reduceAdd, Nat.reduceSub]
  refine zz_aload_n rfl dX10_ways_38 ?_
  refine zz_aload_n rfl dX10_ways_39 ?_
  try dsimp only [zz_s1, zz_s2, zz_kill, zz_ent, zz_fl, List.set_cons_zero, List.set_cons_succ, List.getElem?_cons_zero, List.getElem?_cons_succ, Option.toList_some, Option.toList_none, List.cons_append, List.nil_append, List.append_nil, List.length_cons, List.length_nil, List.replicate_succ, List.replicate_zero, Nat.reduceAdd, Nat.reduceSub]
  refine zz_cV0 dX10_ways_40 lX10_171 rfl (os_259 hO) rfl rfl (Nat.le_of_ble_eq_true rfl) (Nat.le_of_ble_eq_true rfl) ?_
  refine sp_all (d + 67) hO (show n j ^ k ≤ 64 by omega) e13 (fun x2 hx2 => ?_)
  try dsimp only [zz_s1, zz_s2, zz_kill, zz_ent, zz_fl, List.set_cons_zero, List.set_cons_succ, List.getElem?_cons_zero, List.getElem?_cons_succ, Option.toList_some, Option.toList_none, List.cons_append, List.nil_append, List.append_nil, List.length_cons, List.length_nil, List.replicate_succ, List.replicate_zero, Nat.reduceAdd, Nat.reduceSub]
  refine zz_cV1 dX10_ways_43 lX10_175 rfl (os_259 hO) rfl rfl (Nat.le_of_ble_eq_true rfl) (Nat.le_of_ble_eq_true rfl) ?_
  refine sp_largest d hO (show n j ^ k ≤ 64 by omega) sy rf a2 (fun w hw => by rw [hx2] at hw; simpa [ltW] using hw) ?_
  try dsimp only [zz_s1, zz_s2, zz_kill, zz_ent, zz_fl, List.set_cons_zero, List.set_cons_succ, List.getElem?_cons_zero, List.getElem?_cons_succ, Option.toList_some, Option.toList_none, List.cons_append, List.nil_append, List.append_nil, List.length_cons, List.length_nil, List.replicate_succ, List.replicate_zero, Nat.reduceAdd, Nat.reduceSub]
  rw [hx2]
  have hal : al (tkB (n j) (E j) k) 64 (ltW (n j ^ k)) ≤ 64 := Nat.le_trans al_ct (fb_ct_le _ _)
  refine zz_cV2 dX10_ways_46 lX10_181 rfl (os_259 hO) rfl rfl (Nat.le_of_ble_eq_true rfl) (Nat.le_of_ble_eq_true rfl) ?_
  refine sp_waysOf hO (show n j ^ k ≤ 64 by omega) sy rf 64 (d + 2) I1 J1 _ x _ a2 (fun w hw => by rw [hx] at hw; simpa [ltW] using hw) (ct64 x) hal ?_
  try dsimp only [zz_s1, zz_s2, zz_kill, zz_ent, zz_fl, List.set_cons_zero, List.set_cons_succ, List.getElem?_cons_zero, List.getElem?_cons_succ, Option.toList_some, Option.toList_none, List.cons_append, List.nil_append, List.append_nil, List.length_cons, List.length_nil, List.replicate_succ, List.replicate_zero, Nat.reduceAdd, Nat.reduceSub]
  rw [hx]
  refine zz_goto (tgt := 54) dX10_ways_49 (by decide) ?_
  refine zz_ireturn dX10_ways_54 rfl (by first | rfl | decide | assumption) ?_
  exact h1 j k hj hk1 hk6 h24 rfl rfl I1 J1 e1 e1' a1
end PWays

