/-! ===== the class's search: groups, the busiest ===== -/
section PGroups
variable {M : zz_M} {I : zz_I} {J : zz_J} {Q : zz_Q} {W : Nat} {N : Nat → Nat → Bool}
/-- the state of the plain try: groups so far, what is left, who may come into the open group -/
def grI (N : Nat → Nat → Bool) (free : Nat → Bool) (g : Nat) (rest group : Nat → Bool) : Prop :=
  ∃ B : Nat → Bool, 1 ≤ g ∧ al N 64 free ≤ (g - 1) + al N 64 B ∧ (∀ w, rest w = true → B w = true) ∧ (∀ x y, B x = true → rest x = false → B y = true → rest y = false → x ≠ y → N x y = true) ∧ (∀ w, group w = true → rest w = true) ∧ ∀ w x, group w = true → B x = true → rest x = false → N x w = true
theorem grI_end (sy : ∀ x y, N x y = N y x) {free rest group : Nat → Bool} {g : Nat} (h : grI N free g rest group) : al N 64 free ≤ g + al N 64 rest := by
  obtain ⟨B, h1, h2, h3, h4, h5, h6⟩ := h
  have := al_cl sy (i := 64) (A := B) (B := rest) h4
  omega
theorem grI_new {free rest : Nat → Bool} {g : Nat} (h : al N 64 free ≤ g + al N 64 rest) : grI N free (g + 1) rest rest :=
  ⟨rest, by omega, by simpa using h, fun _ z => z, fun x y a b => absurd a (by rw [b]; decide), fun _ z => z, fun w x a b c => absurd b (by rw [c]; decide)⟩
theorem grI_step (sy : ∀ x y, N x y = N y x) {free rest group rest' group' : Nat → Bool} {g v : Nat} (h : grI N free g rest group) (hv : group v = true) (e1 : ∀ w, rest' w = true ↔ rest w = true ∧ w ≠ v) (e2 : ∀ w, group' w = true → group w = true ∧ N v w = true ∧ rest' w = true) : grI N free g rest' group' := by
  obtain ⟨B, h1, h2, h3, h4, h5, h6⟩ := h
  have hn : ∀ x, rest' x = false → rest x = false ∨ x = v := fun x hx => by
    by_cases e : x = v
    · exact Or.inr e
    · left
      cases c : rest x with
      | false => rfl
      | true => have := (e1 x).mpr ⟨c, e⟩; rw [hx] at this; cases this
  refine ⟨B, h1, h2, fun w hw => h3 w ((e1 w).mp hw).1, fun x y x1 x2 y1 y2 ne => ?_, fun w hw => (e2 w hw).2.2, fun w x hw x1 x2 => ?_⟩
  · rcases hn x x2 with a | a
    · rcases hn y y2 with b | b
      · exact h4 x y x1 a y1 b ne
      · rw [b]; exact h6 v x hv x1 a
    · rcases hn y y2 with b | b
      · rw [a, sy]; exact h6 v y hv y1 b
      · exact absurd (a.trans b.symm) ne
  · have hw2 := e2 w hw
    rcases hn x x2 with a | a
    · exact h6 w x hw2.1 x1 a
    · rw [a]; exact hw2.2.1
theorem sp_groups (d : Nat) (hO : OK M) (hW : W ≤ 64) (sy : ∀ x y, N x y = N y x) (hN : NB J W N) {free : Int64} (hf : sb free W) (hQ : ∀ g : Nat, g ≤ fb_ct (bl free) 64 → al N 64 (bl free) ≤ g → Q (some (.int (nI g))) M I J) : zz_D mX1_groups (d + 2) [.ref 8, .long free] M I J Q := by
  refine zz_D_of rfl (Nat.le_of_ble_eq_true rfl) ?_
  try dsimp only [zz_s1, zz_s2, zz_kill, zz_ent, zz_fl, List.set_cons_zero, List.set_cons_succ, List.getElem?_cons_zero, List.getElem?_cons_succ, Option.toList_some, Option.toList_none, List.cons_append, List.nil_append, List.append_nil, List.length_cons, List.length_nil, List.replicate_succ, List.replicate_zero, Nat.reduceAdd, Nat.reduceSub]
  refine zz_iconst (v := 0) (by decide) dX1_groups_0 ?_
  refine zz_istore_n dX1_groups_1 (by decide) ?_
  refine zz_lload_n rfl dX1_groups_2 ?_
  refine zz_lstore dX1_groups_3 (by decide) ?_
  refine zz_lconst (v := 0) (by decide) dX1_groups_5 ?_
  refine zz_lstore dX1_groups_6 (by decide) ?_
  refine zz_lload_n rfl dX1_groups_8 ?_
  try dsimp only [zz_s1, zz_s2, zz_kill, zz_ent, zz_fl, List.set_cons_zero, List.set_cons_succ, List.getElem?_cons_zero, List.getElem?_cons_succ, Option.toList_some, Option.toList_none, List.cons_append, List.nil_append, List.append_nil, List.length_cons, List.length_nil, List.replicate_succ, List.replicate_zero, Nat.reduceAdd, Nat.reduceSub]
  refine zz_cS1 dX1_groups_9 lX1_73 rfl (Nat.le_of_ble_eq_true rfl) (Nat.le_of_ble_eq_true rfl) ?_
  refine sp_bitCountJ (d + 1) ?_
  try dsimp only [zz_s1, zz_s2, zz_kill, zz_ent, zz_fl, List.set_cons_zero, List.set_cons_succ, List.getElem?_cons_zero, List.getElem?_cons_succ, Option.toList_some, Option.toList_none, List.cons_append, List.nil_append, List.append_nil, List.length_cons, List.length_nil, List.replicate_succ, List.replicate_zero, Nat.reduceAdd, Nat.reduceSub]
  refine zz_istore dX1_groups_12 (by decide) ?_
  refine zz_iconst (v := 0) (by decide) dX1_groups_14 ?_
  refine zz_istore dX1_groups_15 (by decide) ?_
  try dsimp only [zz_s1, zz_s2, zz_kill, zz_ent, zz_fl, List.set_cons_zero, List.set_cons_succ, List.getElem?_cons_zero, List.getElem?_cons_succ, Option.toList_some, Option.toList_none, List.cons_append, List.nil_append, List.append_nil, List.length_cons, List.length_nil, List.replicate_succ, List.replicate_zero, Nat.reduceAdd, Nat.reduceSub]
  have hn64 := ct64 free
  generalize hn : fb_ct (bl free) 64 = n at *
  have loop : ∀ (q i g : Nat) (rest group : Int64) (z10 : Option Value), i + q = n → g ≤ i → fb_ct (bl rest) 64 = q → (∀ w, bl rest w = true → bl free w = true) → ((group = 0 ∧ al N 64 (bl free) ≤ g + al N 64 (bl rest)) ∨ grI N (bl free) g (bl rest) (bl group)) → zz_G mX1_groups (d + 2) 0 17 [some (.ref 8), some (.long free), none, some (.int (nI g)), some (.long rest), none, some (.long group), none, some (.int (nI n)), some (.int (nI i)), z10] [] M I J Q := by
    intro q
    induction q with
    | zero =>
      intro i g rest group z10 hi hg hc g1 g2
      have e : i = n := by omega
      subst e
      have hend : al N 64 (bl free) ≤ g + al N 64 (bl rest) := g2.elim (fun z => z.2) (grI_end sy)
      rw [al_0 (A := bl rest) (fun w _ => by rw [ct0 hc]; exact bl_0 w)] at hend
      refine zz_iload rfl dX1_groups_17 ?_
      refine zz_iload rfl dX1_groups_19 ?_
      try dsimp only [zz_s1, zz_s2, zz_kill, zz_ent, zz_fl, List.set_cons_zero, List.set_cons_succ, List.getElem?_cons_zero, List.getElem?_cons_succ, Option.toList_some, Option.toList_none, List.cons_append, List.nil_append, List.append_nil, List.length_cons, List.length_nil, List.replicate_succ, List.replicate_zero, Nat.reduceAdd, Nat.reduceSub]
      refine zz_icmp_ge (tgt := 79) dX1_groups_21 (by decide) (fun h => ?_) (fun h => ?_)
      · refine zz_iload_n rfl dX1_groups_79 ?_
        refine zz_ireturn dX1_groups_80 rfl (by first | rfl | decide | assumption) ?_
        exact hQ g hg hend
      · exact absurd (nI_le (Nat.le_refl i) (by omega)) h
    | succ q ih =>
      intro i g rest group z10 hi hg hc g1 g2
      have step : ∀ (g' : Nat) (group : Int64), g' ≤ i + 1 → ¬ group = 0 → grI N (bl free) g' (bl rest) (bl group) → zz_G mX1_groups (d + 2) 0 38 [some (.ref 8), some (.long free), none, some (.int (nI g')), some (.long rest), none, some (.long group), none, some (.int (nI n)), some (.int (nI i)), z10] [] M I J Q := by
        intro g' group hg' hne hI
        obtain ⟨v, hv, hl⟩ := lowb_ex hne
        have hvr : bl rest v = true := by obtain ⟨B, _, _, _, _, h5, _⟩ := hI; exact h5 v hl.1
        have hvW := hf v (g1 v hvr)
        have hc2 := ct_rm hv hvr
        refine zz_lload rfl dX1_groups_38 ?_
        try dsimp only [zz_s1, zz_s2, zz_kill, zz_ent, zz_fl, List.set_cons_zero, List.set_cons_succ, List.getElem?_cons_zero, List.getElem?_cons_succ, Option.toList_some, Option.toList_none, List.cons_append, List.nil_append, List.append_nil, List.length_cons, List.length_nil, List.replicate_succ, List.replicate_zero, Nat.reduceAdd, Nat.reduceSub]
        refine zz_cSN1 dX1_groups_40 lX1_85 rfl (Nat.le_of_ble_eq_true rfl) (Nat.le_of_ble_eq_true rfl) ?_
        refine sp_lowest d hl ?_
        try dsimp only [zz_s1, zz_s2, zz_kill, zz_ent, zz_fl, List.set_cons_zero, List.set_cons_succ, List.getElem?_cons_zero, List.getElem?_cons_succ, Option.toList_some, Option.toList_none, List.cons_append, List.nil_append, List.append_nil, List.length_cons, List.length_nil, List.replicate_succ, List.replicate_zero, Nat.reduceAdd, Nat.reduceSub]
        refine zz_istore dX1_groups_43 (by decide) ?_
        refine zz_lload rfl dX1_groups_45 ?_
        refine zz_lconst (v := 1) (by decide) dX1_groups_47 ?_
        refine zz_iload rfl dX1_groups_48 ?_
        refine zz_lshl dX1_groups_50 ?_
        refine zz_ldc2 tX1_41 dX1_groups_51 ?_
        refine zz_lxor dX1_groups_54 ?_
        refine zz_land dX1_groups_55 ?_
        refine zz_lstore dX1_groups_56 (by decide) ?_
        refine zz_lload rfl dX1_groups_58 ?_
        refine zz_aload_n rfl dX1_groups_60 ?_
        refine zz_getr dX1_groups_61 fX1_9 (fun _ _ _ _ => rfl) (os_8 hO) (or_8_0 hO) ?_
        refine zz_iload rfl dX1_groups_64 ?_
        refine zz_lald dX1_groups_66 (os_9 hO) (vp_in_nI hv (by decide)) ?_
        refine zz_lload rfl dX1_groups_67 ?_
        refine zz_land dX1_groups_69 ?_
        refine zz_land dX1_groups_70 ?_
        refine zz_lstore dX1_groups_71 (by decide) ?_
        refine zz_iinc dX1_groups_73 rfl (congrArg (HAdd.hAdd _) (show Int32.ofInt 1 = 1 by decide)) (by decide) ?_
        refine zz_goto (tgt := 17) dX1_groups_76 (by decide) ?_
        try dsimp only [zz_s1, zz_s2, zz_kill, zz_ent, zz_fl, List.set_cons_zero, List.set_cons_succ, List.getElem?_cons_zero, List.getElem?_cons_succ, Option.toList_some, Option.toList_none, List.cons_append, List.nil_append, List.append_nil, List.length_cons, List.length_nil, List.replicate_succ, List.replicate_zero, Nat.reduceAdd, Nat.reduceSub]
        rw [nI_1, nI_clamp (show v < 2 ^ 31 by omega)]
        refine ih (i + 1) g' _ _ _ (by omega) hg' (by rw [br1 _ hv]; omega) (fun w hw => ?_) (Or.inr (grI_step sy hI hl.1 (fun w => ?_) (fun w hw => ?_)))
        · rw [br1 _ hv, rm_t] at hw; exact g1 w hw.1
        · rw [br1 _ hv, rm_t]
        · rw [bl_and, bl_and, Bool.and_eq_true, Bool.and_eq_true] at hw
          refine ⟨hw.1, ?_, hw.2.2⟩
          have hwr := hw.2.2
          rw [br1 _ hv, rm_t] at hwr
          rw [← hN v hvW w (hf w (g1 w hwr.1))]
          exact hw.2.1
      refine zz_iload rfl dX1_groups_17 ?_
      refine zz_iload rfl dX1_groups_19 ?_
      try dsimp only [zz_s1, zz_s2, zz_kill, zz_ent, zz_fl, List.set_cons_zero, List.set_cons_succ, List.getElem?_cons_zero, List.getElem?_cons_succ, Option.toList_some, Option.toList_none, List.cons_append, List.nil_append, List.append_nil, List.length_cons, List.length_nil, List.replicate_succ, List.replicate_zero, Nat.reduceAdd, Nat.reduceSub]
      refine zz_icmp_ge (tgt := 79) dX1_groups_21 (by decide) (fun h => ?_) (fun h => ?_)
      · exact absurd h (nI_ge (by omega) (by omega))
      · skip
        refine zz_lload rfl dX1_groups_24 ?_
        refine zz_lconst (v := 0) (by decide) dX1_groups_26 ?_
        refine zz_lcmp dX1_groups_27 ?_
        try dsimp only [zz_s1, zz_s2, zz_kill, zz_ent, zz_fl, List.set_cons_zero, List.set_cons_succ, List.getElem?_cons_zero, List.getElem?_cons_succ, Option.toList_some, Option.toList_none, List.cons_append, List.nil_append, List.append_nil, List.length_cons, List.length_nil, List.replicate_succ, List.replicate_zero, Nat.reduceAdd, Nat.reduceSub]
        refine zz_if_ne (tgt := 38) dX1_groups_28 (by decide) (fun h2 => ?_) (fun h2 => ?_)
        · have hne : ¬ group = 0 := fun e => h2 (cmp_eq.mpr e)
          exact step g group (by omega) hne (g2.elim (fun z => absurd z.1 hne) id)
        · skip
          have hnr : ¬ rest = 0 := fun e => by rw [e, show fb_ct (bl 0) 64 = 0 from fb_ct_zero.mpr (fun i _ => bl_0 i)] at hc; omega
          refine zz_iinc dX1_groups_31 rfl (congrArg (HAdd.hAdd _) (show Int32.ofInt 1 = 1 by decide)) (by decide) ?_
          refine zz_lload rfl dX1_groups_34 ?_
          refine zz_lstore dX1_groups_36 (by decide) ?_
          try dsimp only [zz_s1, zz_s2, zz_kill, zz_ent, zz_fl, List.set_cons_zero, List.set_cons_succ, List.getElem?_cons_zero, List.getElem?_cons_succ, Option.toList_some, Option.toList_none, List.cons_append, List.nil_append, List.append_nil, List.length_cons, List.length_nil, List.replicate_succ, List.replicate_zero, Nat.reduceAdd, Nat.reduceSub]
          rw [nI_1]
          exact step (g + 1) rest (by omega) hnr (grI_new (g2.elim (fun z => z.2) (grI_end sy)))
  exact loop n 0 0 free 0 _ (by omega) (Nat.le_refl _) hn (fun _ z => z) (Or.inl ⟨rfl, by omega⟩)
theorem sp_busiest (d : Nat) (hO : OK M) (hW : W ≤ 64) (hN : NB J W N) {free : Int64} (hf : sb free W) (hne : ¬ free = 0) (hQ : ∀ v : Nat, bl free v = true → (∀ w, bl free w = true → fb_ct (bl (free &&& J 9 w)) 64 ≤ fb_ct (bl (free &&& J 9 v)) 64) → Q (some (.int (nI v))) M I J) : zz_D mX1_busiest (d + 2) [.ref 8, .long free] M I J Q := by
  refine zz_D_of rfl (Nat.le_of_ble_eq_true rfl) ?_
  try dsimp only [zz_s1, zz_s2, zz_kill, zz_ent, zz_fl, List.set_cons_zero, List.set_cons_succ, List.getElem?_cons_zero, List.getElem?_cons_succ, Option.toList_some, Option.toList_none, List.cons_append, List.nil_append, List.append_nil, List.length_cons, List.length_nil, List.replicate_succ, List.replicate_zero, Nat.reduceAdd, Nat.reduceSub]
  refine zz_iconst (v := 0) (by decide) dX1_busiest_0 ?_
  refine zz_istore_n dX1_busiest_1 (by decide) ?_
  refine zz_iconst (v := (-1)) (by decide) dX1_busiest_2 ?_
  refine zz_istore dX1_busiest_3 (by decide) ?_
  refine zz_lload_n rfl dX1_busiest_5 ?_
  refine zz_lstore dX1_busiest_6 (by decide) ?_
  refine zz_lload_n rfl dX1_busiest_8 ?_
  try dsimp only [zz_s1, zz_s2, zz_kill, zz_ent, zz_fl, List.set_cons_zero, List.set_cons_succ, List.getElem?_cons_zero, List.getElem?_cons_succ, Option.toList_some, Option.toList_none, List.cons_append, List.nil_append, List.append_nil, List.length_cons, List.length_nil, List.replicate_succ, List.replicate_zero, Nat.reduceAdd, Nat.reduceSub]
  refine zz_cS1 dX1_busiest_9 lX1_73 rfl (Nat.le_of_ble_eq_true rfl) (Nat.le_of_ble_eq_true rfl) ?_
  refine sp_bitCountJ (d + 1) ?_
  try dsimp only [zz_s1, zz_s2, zz_kill, zz_ent, zz_fl, List.set_cons_zero, List.set_cons_succ, List.getElem?_cons_zero, List.getElem?_cons_succ, Option.toList_some, Option.toList_none, List.cons_append, List.nil_append, List.append_nil, List.length_cons, List.length_nil, List.replicate_succ, List.replicate_zero, Nat.reduceAdd, Nat.reduceSub]
  refine zz_istore dX1_busiest_12 (by decide) ?_
  refine zz_iconst (v := 0) (by decide) dX1_busiest_14 ?_
  refine zz_istore dX1_busiest_15 (by decide) ?_
  try dsimp only [zz_s1, zz_s2, zz_kill, zz_ent, zz_fl, List.set_cons_zero, List.set_cons_succ, List.getElem?_cons_zero, List.getElem?_cons_succ, Option.toList_some, Option.toList_none, List.cons_append, List.nil_append, List.append_nil, List.length_cons, List.length_nil, List.replicate_succ, List.replicate_zero, Nat.reduceAdd, Nat.reduceSub]
  have hn64 := ct64 free
  have hn0 : 0 < fb_ct (bl free) 64 := by
    obtain ⟨k, hk, hb⟩ := bl_nz hne
    exact fb_ct_pos.mpr ⟨k, hk, hb⟩
  generalize hn : fb_ct (bl free) 64 = n at *
  have loop : ∀ (q i b : Nat) (hi' : Int32) (left : Int64) (z9 z10 : Option Value), i + q = n → fb_ct (bl left) 64 = q → (∀ w, bl left w = true → bl free w = true) → ((i = 0 ∧ left = free ∧ hi' = -1) ∨ (bl free b = true ∧ hi' = nI (fb_ct (bl (free &&& J 9 b)) 64) ∧ ∀ w, bl free w = true → bl left w = false → fb_ct (bl (free &&& J 9 w)) 64 ≤ fb_ct (bl (free &&& J 9 b)) 64)) → zz_G mX1_busiest (d + 2) 0 17 [some (.ref 8), some (.long free), none, some (.int (nI b)), some (.int hi'), some (.long left), none, some (.int (nI n)), some (.int (nI i)), z9, z10] [] M I J Q := by
    intro q
    induction q with
    | zero =>
      intro i b hh left z9 z10 hi hc g1 g2
      have e : i = n := by omega
      subst e
      refine zz_iload rfl dX1_busiest_17 ?_
      refine zz_iload rfl dX1_busiest_19 ?_
      try dsimp only [zz_s1, zz_s2, zz_kill, zz_ent, zz_fl, List.set_cons_zero, List.set_cons_succ, List.getElem?_cons_zero, List.getElem?_cons_succ, Option.toList_some, Option.toList_none, List.cons_append, List.nil_append, List.append_nil, List.length_cons, List.length_nil, List.replicate_succ, List.replicate_zero, Nat.reduceAdd, Nat.reduceSub]
      refine zz_icmp_ge (tgt := 74) dX1_busiest_21 (by decide) (fun h => ?_) (fun h => ?_)
      · refine zz_iload_n rfl dX1_busiest_74 ?_
        refine zz_ireturn dX1_busiest_75 rfl (by first | rfl | decide | assumption) ?_
        rcases g2 with z | z
        · omega
        · exact hQ b z.1 (fun w hw => z.2.2 w hw (by rw [ct0 hc]; exact bl_0 w))
      · exact absurd (nI_le (Nat.le_refl i) (by omega)) h
    | succ q ih =>
      intro i b hh left z9 z10 hi hc g1 g2
      obtain ⟨u, hu, hl⟩ := ctn hc
      have huf := g1 u hl.1
      have huW := hf u huf
      have hc2 := ct_rm hu hl.1
      rw [← bd hl] at hc2
      have ln : ∀ v, bl (left &&& (left - 1)) v = false → (bl left v = false ∨ v = u) := fun v hv => by
        rw [bd hl] at hv
        unfold rm at hv
        by_cases e : v = u
        · exact Or.inr e
        · left; simpa [e] using hv
      have g1' : ∀ w, bl (left &&& (left - 1)) w = true → bl free w = true := fun w hw => by rw [bd hl, rm_t] at hw; exact g1 w hw.1
      have c1 := ct64 (free &&& J 9 u)
      have c2 := ct64 (free &&& J 9 b)
      refine zz_iload rfl dX1_busiest_17 ?_
      refine zz_iload rfl dX1_busiest_19 ?_
      try dsimp only [zz_s1, zz_s2, zz_kill, zz_ent, zz_fl, List.set_cons_zero, List.set_cons_succ, List.getElem?_cons_zero, List.getElem?_cons_succ, Option.toList_some, Option.toList_none, List.cons_append, List.nil_append, List.append_nil, List.length_cons, List.length_nil, List.replicate_succ, List.replicate_zero, Nat.reduceAdd, Nat.reduceSub]
      refine zz_icmp_ge (tgt := 74) dX1_busiest_21 (by decide) (fun h => ?_) (fun h => ?_)
      · exact absurd h (nI_ge (by omega) (by omega))
      · skip
        refine zz_lload rfl dX1_busiest_24 ?_
        try dsimp only [zz_s1, zz_s2, zz_kill, zz_ent, zz_fl, List.set_cons_zero, List.set_cons_succ, List.getElem?_cons_zero, List.getElem?_cons_succ, Option.toList_some, Option.toList_none, List.cons_append, List.nil_append, List.append_nil, List.length_cons, List.length_nil, List.replicate_succ, List.replicate_zero, Nat.reduceAdd, Nat.reduceSub]
        refine zz_cSN1 dX1_busiest_26 lX1_85 rfl (Nat.le_of_ble_eq_true rfl) (Nat.le_of_ble_eq_true rfl) ?_
        refine sp_lowest d hl ?_
        try dsimp only [zz_s1, zz_s2, zz_kill, zz_ent, zz_fl, List.set_cons_zero, List.set_cons_succ, List.getElem?_cons_zero, List.getElem?_cons_succ, Option.toList_some, Option.toList_none, List.cons_append, List.nil_append, List.append_nil, List.length_cons, List.length_nil, List.replicate_succ, List.replicate_zero, Nat.reduceAdd, Nat.reduceSub]
        refine zz_istore dX1_busiest_29 (by decide) ?_
        refine zz_lload rfl dX1_busiest_31 ?_
        refine zz_lload rfl dX1_busiest_33 ?_
        refine zz_lconst (v := 1) (by decide) dX1_busiest_35 ?_
        refine zz_lsub dX1_busiest_36 ?_
        refine zz_land dX1_busiest_37 ?_
        refine zz_lstore dX1_busiest_38 (by decide) ?_
        refine zz_lload_n rfl dX1_busiest_40 ?_
        refine zz_aload_n rfl dX1_busiest_41 ?_
        refine zz_getr dX1_busiest_42 fX1_9 (fun _ _ _ _ => rfl) (os_8 hO) (or_8_0 hO) ?_
        refine zz_iload rfl dX1_busiest_45 ?_
        refine zz_lald dX1_busiest_47 (os_9 hO) (vp_in_nI hu (by decide)) ?_
        refine zz_land dX1_busiest_48 ?_
        try dsimp only [zz_s1, zz_s2, zz_kill, zz_ent, zz_fl, List.set_cons_zero, List.set_cons_succ, List.getElem?_cons_zero, List.getElem?_cons_succ, Option.toList_some, Option.toList_none, List.cons_append, List.nil_append, List.append_nil, List.length_cons, List.length_nil, List.replicate_succ, List.replicate_zero, Nat.reduceAdd, Nat.reduceSub]
        rw [nI_clamp (show u < 2 ^ 31 by omega)]
        refine zz_cS1 dX1_busiest_49 lX1_73 rfl (Nat.le_of_ble_eq_true rfl) (Nat.le_of_ble_eq_true rfl) ?_
        refine sp_bitCountJ (d + 1) ?_
        try dsimp only [zz_s1, zz_s2, zz_kill, zz_ent, zz_fl, List.set_cons_zero, List.set_cons_succ, List.getElem?_cons_zero, List.getElem?_cons_succ, Option.toList_some, Option.toList_none, List.cons_append, List.nil_append, List.append_nil, List.length_cons, List.length_nil, List.replicate_succ, List.replicate_zero, Nat.reduceAdd, Nat.reduceSub]
        refine zz_istore dX1_busiest_52 (by decide) ?_
        refine zz_iload rfl dX1_busiest_54 ?_
        refine zz_iload rfl dX1_busiest_56 ?_
        try dsimp only [zz_s1, zz_s2, zz_kill, zz_ent, zz_fl, List.set_cons_zero, List.set_cons_succ, List.getElem?_cons_zero, List.getElem?_cons_succ, Option.toList_some, Option.toList_none, List.cons_append, List.nil_append, List.append_nil, List.length_cons, List.length_nil, List.replicate_succ, List.replicate_zero, Nat.reduceAdd, Nat.reduceSub]
        refine zz_icmp_le (tgt := 68) dX1_busiest_58 (by decide) (fun h2 => ?_) (fun h2 => ?_)
        · refine zz_iinc dX1_busiest_68 rfl (congrArg (HAdd.hAdd _) (show Int32.ofInt 1 = 1 by decide)) (by decide) ?_
          refine zz_goto (tgt := 17) dX1_busiest_71 (by decide) ?_
          try dsimp only [zz_s1, zz_s2, zz_kill, zz_ent, zz_fl, List.set_cons_zero, List.set_cons_succ, List.getElem?_cons_zero, List.getElem?_cons_succ, Option.toList_some, Option.toList_none, List.cons_append, List.nil_append, List.append_nil, List.length_cons, List.length_nil, List.replicate_succ, List.replicate_zero, Nat.reduceAdd, Nat.reduceSub]
          rw [nI_1]
          refine ih (i + 1) b hh _ _ _ (by omega) (by omega) g1' ?_
          rcases g2 with z | z
          · rw [z.2.2] at h2
            exfalso
            rw [Int32.le_iff_toInt_le, nI_toInt (by omega)] at h2
            have : (-1 : Int32).toInt = -1 := by decide
            omega
          · rw [z.2.1] at h2
            have h3 := (nI_leI (by omega) (by omega)).mp h2
            refine Or.inr ⟨z.1, z.2.1, fun w hw hn2 => ?_⟩
            rcases ln w hn2 with y | y
            · exact z.2.2 w hw y
            · rw [y]; exact h3
        · skip
          refine zz_iload rfl dX1_busiest_61 ?_
          refine zz_istore dX1_busiest_63 (by decide) ?_
          refine zz_iload rfl dX1_busiest_65 ?_
          refine zz_istore_n dX1_busiest_67 (by decide) ?_
          refine zz_iinc dX1_busiest_68 rfl (congrArg (HAdd.hAdd _) (show Int32.ofInt 1 = 1 by decide)) (by decide) ?_
          refine zz_goto (tgt := 17) dX1_busiest_71 (by decide) ?_
          try dsimp only [zz_s1, zz_s2, zz_kill, zz_ent, zz_fl, List.set_cons_zero, List.set_cons_succ, List.getElem?_cons_zero, List.getElem?_cons_succ, Option.toList_some, Option.toList_none, List.cons_append, List.nil_append, List.append_nil, List.length_cons, List.length_nil, List.replicate_succ, List.replicate_zero, Nat.reduceAdd, Nat.reduceSub]
          rw [nI_1]
          refine ih (i + 1) u _ _ _ _ (by omega) (by omega) g1' (Or.inr ⟨huf, rfl, fun w hw hn2 => ?_⟩)
          rcases ln w hn2 with y | y
          · rcases g2 with z | z
            · rw [z.2.1, hw] at y; cases y
            · rw [z.2.1] at h2
              have h3 : ¬ fb_ct (bl (free &&& J 9 u)) 64 ≤ fb_ct (bl (free &&& J 9 b)) 64 := fun y => h2 (nI_le y (by omega))
              have := z.2.2 w hw y
              omega
          · rw [y]; exact Nat.le_refl _
  exact loop n 0 0 (-1) free _ _ (by omega) hn (fun _ z => z) (Or.inl ⟨rfl, rfl, rfl⟩)
end PGroups

