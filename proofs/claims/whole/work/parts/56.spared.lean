/-! ===== the class's search: words that can be spared ===== -/
theorem bm (x y : Int64) : bl (x &&& (y ^^^ (-1))) = mi (bl x) (bl y) := by
  funext i
  by_cases h : i < 64
  · rw [bl_and, bl_not _ h]; rfl
  · unfold mi
    rw [bl_big (by omega), bl_big (x := x) (by omega)]; rfl
theorem br1 (x : Int64) {k : Nat} (hk : k < 64) : bl (x &&& (jv_lshl 1 (nI k) ^^^ (-1))) = rm (bl x) k := by
  rw [bm]
  funext i
  unfold mi rm
  rw [bl_one' hk]
theorem bd {x : Int64} {k : Nat} (h : lowb x k) : bl (x &&& (x - 1)) = rm (bl x) k := funext (fun i => bl_drop h i)
theorem ct0 {x : Int64} (h : fb_ct (bl x) 64 = 0) : x = 0 := bl_zero.mpr (fun i => by
  by_cases hi : i < 64
  · exact fb_ct_zero.mp h i hi
  · exact bl_big (by omega))
theorem ctn {x : Int64} {q : Nat} (h : fb_ct (bl x) 64 = q + 1) : ∃ k, k < 64 ∧ lowb x k := lowb_ex (fun e => by
  rw [e, show fb_ct (bl 0) 64 = 0 from fb_ct_zero.mpr (fun i _ => bl_0 i)] at h
  omega)
theorem ct64 (x : Int64) : fb_ct (bl x) 64 ≤ 64 := fb_ct_le _ _
/-- the class's table of near words -/
def NB (J : zz_J) (W : Nat) (N : Nat → Nat → Bool) : Prop := ∀ v, v < W → ∀ w, w < W → bl (J 9 v) w = N v w
/-- a set of words -/
def sb (x : Int64) (W : Nat) : Prop := ∀ i, bl x i = true → i < W
theorem nbm {J : zz_J} {W : Nat} {N : Nat → Nat → Bool} (h : NB J W N) {x : Int64} {v : Nat} (hx : sb x W) (hv : v < W) : mi (bl x) (bl (J 9 v)) = mi (bl x) (N v) := by
  funext w
  unfold mi
  cases c : bl x w with
  | false => rfl
  | true => rw [h v hv w (hx w c)]
theorem nba {J : zz_J} {W : Nat} {N : Nat → Nat → Bool} (h : NB J W N) {x : Int64} {v : Nat} (hx : sb x W) (hv : v < W) (w : Nat) : bl (x &&& J 9 v) w = (bl x w && N v w) := by
  rw [bl_and]
  cases c : bl x w with
  | false => rfl
  | true => rw [h v hv w (hx w c)]
/-- another word of A can stand for v -/
def spd (N : Nat → Nat → Bool) (A : Nat → Bool) (v : Nat) : Prop := ∃ u, A u = true ∧ u ≠ v ∧ N v u = true ∧ ∀ w, A w = true → N u w = true → N v w = true
section PSpared
variable {M : zz_M} {I : zz_I} {J : zz_J} {Q : zz_Q} {W : Nat} {N : Nat → Nat → Bool}
theorem sp_canBeSpared (d : Nat) (hO : OK M) (hW : W ≤ 64) (hN : NB J W N) {v : Nat} {rest : Int64} (hv : v < W) (hr : sb rest W) (hQ : ∀ r : Int32, bo r (spd N (bl rest) v) → Q (some (.int r)) M I J) : zz_D mX1_canBeSpared (d + 2) [.ref 8, .int (nI v), .long rest] M I J Q := by
  refine zz_D_of rfl (Nat.le_of_ble_eq_true rfl) ?_
  try dsimp only [zz_s1, zz_s2, zz_kill, zz_ent, zz_fl, List.set_cons_zero, List.set_cons_succ, List.getElem?_cons_zero, List.getElem?_cons_succ, Option.toList_some, Option.toList_none, List.cons_append, List.nil_append, List.append_nil, List.length_cons, List.length_nil, List.replicate_succ, List.replicate_zero, Nat.reduceAdd, Nat.reduceSub]
  refine zz_lload_n rfl dX1_canBeSpared_0 ?_
  refine zz_aload_n rfl dX1_canBeSpared_1 ?_
  refine zz_getr dX1_canBeSpared_2 fX1_9 (fun _ _ _ _ => rfl) (os_8 hO) (or_8_0 hO) ?_
  refine zz_iload_n rfl dX1_canBeSpared_5 ?_
  refine zz_lald dX1_canBeSpared_6 (os_9 hO) (vp_in_nI (show v < 64 by omega) (by decide)) ?_
  refine zz_ldc2 tX1_41 dX1_canBeSpared_7 ?_
  refine zz_lxor dX1_canBeSpared_10 ?_
  refine zz_land dX1_canBeSpared_11 ?_
  refine zz_lstore dX1_canBeSpared_12 (by decide) ?_
  refine zz_lload_n rfl dX1_canBeSpared_14 ?_
  refine zz_aload_n rfl dX1_canBeSpared_15 ?_
  refine zz_getr dX1_canBeSpared_16 fX1_9 (fun _ _ _ _ => rfl) (os_8 hO) (or_8_0 hO) ?_
  refine zz_iload_n rfl dX1_canBeSpared_19 ?_
  refine zz_lald dX1_canBeSpared_20 (os_9 hO) (vp_in_nI (show v < 64 by omega) (by decide)) ?_
  refine zz_land dX1_canBeSpared_21 ?_
  refine zz_lconst (v := 1) (by decide) dX1_canBeSpared_22 ?_
  refine zz_iload_n rfl dX1_canBeSpared_23 ?_
  refine zz_lshl dX1_canBeSpared_24 ?_
  refine zz_ldc2 tX1_41 dX1_canBeSpared_25 ?_
  refine zz_lxor dX1_canBeSpared_28 ?_
  refine zz_land dX1_canBeSpared_29 ?_
  refine zz_lstore dX1_canBeSpared_30 (by decide) ?_
  refine zz_lload rfl dX1_canBeSpared_32 ?_
  try dsimp only [zz_s1, zz_s2, zz_kill, zz_ent, zz_fl, List.set_cons_zero, List.set_cons_succ, List.getElem?_cons_zero, List.getElem?_cons_succ, Option.toList_some, Option.toList_none, List.cons_append, List.nil_append, List.append_nil, List.length_cons, List.length_nil, List.replicate_succ, List.replicate_zero, Nat.reduceAdd, Nat.reduceSub]
  rw [nI_clamp (show v < 2 ^ 31 by omega)]
  generalize hfar : rest &&& (J 9 v ^^^ (-1)) = far
  generalize hset : rest &&& J 9 v &&& (jv_lshl 1 (nI v) ^^^ (-1)) = set0
  have efar : ∀ w, bl far w = true ↔ bl rest w = true ∧ N v w = false := fun w => by rw [← hfar, bm, nbm hN hr hv, mi_t]
  have eset : ∀ w, bl set0 w = true ↔ (bl rest w = true ∧ N v w = true) ∧ w ≠ v := fun w => by rw [← hset, br1 _ (by omega), rm_t, nba hN hr hv, Bool.and_eq_true]
  have hs0 : sb set0 W := fun i hi => hr i ((eset i).mp hi).1.1
  refine zz_cS1 dX1_canBeSpared_34 lX1_73 rfl (Nat.le_of_ble_eq_true rfl) (Nat.le_of_ble_eq_true rfl) ?_
  refine sp_bitCountJ (d + 1) ?_
  try dsimp only [zz_s1, zz_s2, zz_kill, zz_ent, zz_fl, List.set_cons_zero, List.set_cons_succ, List.getElem?_cons_zero, List.getElem?_cons_succ, Option.toList_some, Option.toList_none, List.cons_append, List.nil_append, List.append_nil, List.length_cons, List.length_nil, List.replicate_succ, List.replicate_zero, Nat.reduceAdd, Nat.reduceSub]
  refine zz_istore dX1_canBeSpared_37 (by decide) ?_
  refine zz_iconst (v := 0) (by decide) dX1_canBeSpared_39 ?_
  refine zz_istore dX1_canBeSpared_40 (by decide) ?_
  try dsimp only [zz_s1, zz_s2, zz_kill, zz_ent, zz_fl, List.set_cons_zero, List.set_cons_succ, List.getElem?_cons_zero, List.getElem?_cons_succ, Option.toList_some, Option.toList_none, List.cons_append, List.nil_append, List.append_nil, List.length_cons, List.length_nil, List.replicate_succ, List.replicate_zero, Nat.reduceAdd, Nat.reduceSub]
  have hn64 := ct64 set0
  generalize hn : fb_ct (bl set0) 64 = n at *
  have loop : ∀ (q i : Nat) (left : Int64), i + q = n → fb_ct (bl left) 64 = q → sb left W → (∀ r : Int32, bo r (∃ u, bl left u = true ∧ J 9 u &&& far = 0) → Q (some (.int r)) M I J) → zz_G mX1_canBeSpared (d + 2) 0 42 [some (.ref 8), some (.int (nI v)), some (.long rest), none, some (.long far), none, some (.long left), none, some (.int (nI n)), some (.int (nI i))] [] M I J Q := by
    intro q
    induction q with
    | zero =>
      intro i left hi hc hs hk
      have e : i = n := by omega
      subst e
      refine zz_iload rfl dX1_canBeSpared_42 ?_
      refine zz_iload rfl dX1_canBeSpared_44 ?_
      try dsimp only [zz_s1, zz_s2, zz_kill, zz_ent, zz_fl, List.set_cons_zero, List.set_cons_succ, List.getElem?_cons_zero, List.getElem?_cons_succ, Option.toList_some, Option.toList_none, List.cons_append, List.nil_append, List.append_nil, List.length_cons, List.length_nil, List.replicate_succ, List.replicate_zero, Nat.reduceAdd, Nat.reduceSub]
      refine zz_icmp_ge (tgt := 84) dX1_canBeSpared_46 (by decide) (fun h => ?_) (fun h => ?_)
      · refine zz_iconst (v := 0) (by decide) dX1_canBeSpared_84 ?_
        refine zz_ireturn dX1_canBeSpared_85 rfl (by first | rfl | decide | assumption) ?_
        refine hk 0 (bo.zero ?_)
        rintro ⟨u, h1, h2⟩
        rw [ct0 hc, bl_0] at h1
        cases h1
      · exact absurd (nI_le (Nat.le_refl i) (by omega)) h
    | succ q ih =>
      intro i left hi hc hs hk
      obtain ⟨u, hu, hl⟩ := ctn hc
      have huW := hs u hl.1
      refine zz_iload rfl dX1_canBeSpared_42 ?_
      refine zz_iload rfl dX1_canBeSpared_44 ?_
      try dsimp only [zz_s1, zz_s2, zz_kill, zz_ent, zz_fl, List.set_cons_zero, List.set_cons_succ, List.getElem?_cons_zero, List.getElem?_cons_succ, Option.toList_some, Option.toList_none, List.cons_append, List.nil_append, List.append_nil, List.length_cons, List.length_nil, List.replicate_succ, List.replicate_zero, Nat.reduceAdd, Nat.reduceSub]
      refine zz_icmp_ge (tgt := 84) dX1_canBeSpared_46 (by decide) (fun h => ?_) (fun h => ?_)
      · exact absurd h (nI_ge (by omega) (by omega))
      · skip
        refine zz_aload_n rfl dX1_canBeSpared_49 ?_
        refine zz_getr dX1_canBeSpared_50 fX1_9 (fun _ _ _ _ => rfl) (os_8 hO) (or_8_0 hO) ?_
        refine zz_lload rfl dX1_canBeSpared_53 ?_
        try dsimp only [zz_s1, zz_s2, zz_kill, zz_ent, zz_fl, List.set_cons_zero, List.set_cons_succ, List.getElem?_cons_zero, List.getElem?_cons_succ, Option.toList_some, Option.toList_none, List.cons_append, List.nil_append, List.append_nil, List.length_cons, List.length_nil, List.replicate_succ, List.replicate_zero, Nat.reduceAdd, Nat.reduceSub]
        refine zz_cSN1 dX1_canBeSpared_55 lX1_85 rfl (Nat.le_of_ble_eq_true rfl) (Nat.le_of_ble_eq_true rfl) ?_
        refine sp_lowest d hl ?_
        try dsimp only [zz_s1, zz_s2, zz_kill, zz_ent, zz_fl, List.set_cons_zero, List.set_cons_succ, List.getElem?_cons_zero, List.getElem?_cons_succ, Option.toList_some, Option.toList_none, List.cons_append, List.nil_append, List.append_nil, List.length_cons, List.length_nil, List.replicate_succ, List.replicate_zero, Nat.reduceAdd, Nat.reduceSub]
        refine zz_lald dX1_canBeSpared_58 (os_9 hO) (vp_in_nI hu (by decide)) ?_
        refine zz_lload rfl dX1_canBeSpared_59 ?_
        refine zz_land dX1_canBeSpared_61 ?_
        refine zz_lconst (v := 0) (by decide) dX1_canBeSpared_62 ?_
        refine zz_lcmp dX1_canBeSpared_63 ?_
        try dsimp only [zz_s1, zz_s2, zz_kill, zz_ent, zz_fl, List.set_cons_zero, List.set_cons_succ, List.getElem?_cons_zero, List.getElem?_cons_succ, Option.toList_some, Option.toList_none, List.cons_append, List.nil_append, List.append_nil, List.length_cons, List.length_nil, List.replicate_succ, List.replicate_zero, Nat.reduceAdd, Nat.reduceSub]
        rw [nI_clamp (show u < 2 ^ 31 by omega)]
        refine zz_if_ne (tgt := 69) dX1_canBeSpared_64 (by decide) (fun h2 => ?_) (fun h2 => ?_)
        · refine zz_lload rfl dX1_canBeSpared_69 ?_
          refine zz_lload rfl dX1_canBeSpared_71 ?_
          refine zz_lconst (v := 1) (by decide) dX1_canBeSpared_73 ?_
          refine zz_lsub dX1_canBeSpared_74 ?_
          refine zz_land dX1_canBeSpared_75 ?_
          refine zz_lstore dX1_canBeSpared_76 (by decide) ?_
          refine zz_iinc dX1_canBeSpared_78 rfl (congrArg (HAdd.hAdd _) (show Int32.ofInt 1 = 1 by decide)) (by decide) ?_
          refine zz_goto (tgt := 42) dX1_canBeSpared_81 (by decide) ?_
          try dsimp only [zz_s1, zz_s2, zz_kill, zz_ent, zz_fl, List.set_cons_zero, List.set_cons_succ, List.getElem?_cons_zero, List.getElem?_cons_succ, Option.toList_some, Option.toList_none, List.cons_append, List.nil_append, List.append_nil, List.length_cons, List.length_nil, List.replicate_succ, List.replicate_zero, Nat.reduceAdd, Nat.reduceSub]
          rw [nI_1]
          have hc2 := ct_rm hu hl.1
          rw [← bd hl] at hc2
          refine ih (i + 1) _ (by omega) (by omega) (fun w hw => ?_) (fun r hr2 => hk r (hr2.iff ⟨fun ⟨t, a, b⟩ => ?_, fun ⟨t, a, b⟩ => ?_⟩))
          · rw [bd hl, rm_t] at hw; exact hs w hw.1
          · rw [bd hl, rm_t] at a; exact ⟨t, a.1, b⟩
          · refine ⟨t, ?_, b⟩
            rw [bd hl, rm_t]
            refine ⟨a, fun e => h2 ?_⟩
            rw [← e]
            exact cmp_eq.mpr b
        · skip
          refine zz_iconst (v := 1) (by decide) dX1_canBeSpared_67 ?_
          refine zz_ireturn dX1_canBeSpared_68 rfl (by first | rfl | decide | assumption) ?_
          exact hk 1 (bo.one ⟨u, hl.1, cmp_eq.mp h2⟩)
  refine loop n 0 set0 (by omega) hn hs0 (fun r hr2 => hQ r (hr2.iff ⟨fun ⟨u, a, b⟩ => ?_, fun ⟨u, a, b, c, e⟩ => ?_⟩))
  · have a2 := (eset u).mp a
    refine ⟨u, a2.1.1, a2.2, a2.1.2, fun w hw hn2 => ?_⟩
    cases c : N v w with
    | true => rfl
    | false =>
      have hf := (efar w).mpr ⟨hw, c⟩
      have := bl_zero.mp b w
      rw [bl_and, hf, hN u (hr u a2.1.1) w (hr w hw), hn2] at this
      cases this
  · refine ⟨u, (eset u).mpr ⟨⟨a, c⟩, b⟩, bl_zero.mpr fun w => ?_⟩
    rw [bl_and]
    cases f : bl far w with
    | false => simp
    | true =>
      have f2 := (efar w).mp f
      rw [hN u (hr u a) w (hr w f2.1)]
      cases g : N u w with
      | false => rfl
      | true => have := e w f2.1 g; rw [f2.2] at this; cases this
end PSpared

