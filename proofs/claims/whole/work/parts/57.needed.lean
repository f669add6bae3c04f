/-! ===== the class's search: the words needed ===== -/
section PNeeded
variable {M : zz_M} {I : zz_I} {J : zz_J} {Q : zz_Q} {W : Nat} {N : Nat → Nat → Bool}
theorem ct_lt {A B : Nat → Bool} {v : Nat} (hv : v < 64) (h : ∀ w, A w = true → B w = true) (a : A v = false) (b : B v = true) : fb_ct A 64 < fb_ct B 64 := by
  have h1 : fb_ct A 64 ≤ fb_ct (rm B v) 64 := fb_ct_sub (fun k _ q => rm_t.mpr ⟨h k q, fun e => by rw [e, a] at q; cases q⟩)
  have h2 := ct_rm hv b
  omega
theorem sp_needed (d : Nat) (hO : OK M) (hW : W ≤ 64) (sy : ∀ x y, N x y = N y x) (rf : ∀ x, N x x = true) (hN : NB J W N) {free : Int64} (hf : sb free W) (hQ : ∀ x : Int64, (∀ w, bl x w = true → bl free w = true) → al N 64 (bl x) = al N 64 (bl free) → (∀ v, bl x v = true → ¬ spd N (bl x) v) → Q (some (.long x)) M I J) : zz_D mX1_needed (d + 3) [.ref 8, .long free] M I J Q := by
  refine zz_D_of rfl (Nat.le_of_ble_eq_true rfl) ?_
  try dsimp only [zz_s1, zz_s2, zz_kill, zz_ent, zz_fl, List.set_cons_zero, List.set_cons_succ, List.getElem?_cons_zero, List.getElem?_cons_succ, Option.toList_some, Option.toList_none, List.cons_append, List.nil_append, List.append_nil, List.length_cons, List.length_nil, List.replicate_succ, List.replicate_zero, Nat.reduceAdd, Nat.reduceSub]
  refine zz_lload_n rfl dX1_needed_0 ?_
  refine zz_lstore_n dX1_needed_1 (by decide) ?_
  refine zz_iconst (v := 1) (by decide) dX1_needed_2 ?_
  refine zz_istore dX1_needed_3 (by decide) ?_
  refine zz_iconst (v := 0) (by decide) dX1_needed_5 ?_
  refine zz_istore dX1_needed_6 (by decide) ?_
  try dsimp only [zz_s1, zz_s2, zz_kill, zz_ent, zz_fl, List.set_cons_zero, List.set_cons_succ, List.getElem?_cons_zero, List.getElem?_cons_succ, Option.toList_some, Option.toList_none, List.cons_append, List.nil_append, List.append_nil, List.length_cons, List.length_nil, List.replicate_succ, List.replicate_zero, Nat.reduceAdd, Nat.reduceSub]
  have inner : ∀ (before : Int64) (mo sw n : Nat), sb before W → n ≤ 64 → (∀ (rest' : Int64) (z9 z13 : Option Value) (i : Nat), (∀ w, bl rest' w = true → bl before w = true) → al N 64 (bl rest') = al N 64 (bl before) → ((rest' = before ∧ ∀ v, bl before v = true → ¬ spd N (bl before) v) ∨ fb_ct (bl rest') 64 < fb_ct (bl before) 64) → zz_G mX1_needed (d + 3) 0 86 [some (.ref 8), some (.long free), none, some (.long rest'), none, some (.int (nI mo)), some (.int (nI sw)), some (.long before), none, z9, none, some (.int (nI n)), some (.int (nI i)), z13] [] M I J Q) → ∀ (q i : Nat) (left rest : Int64) (z13 : Option Value), i + q = n → fb_ct (bl left) 64 = q → (∀ w, bl left w = true → bl rest w = true) → (∀ w, bl rest w = true → bl before w = true) → al N 64 (bl rest) = al N 64 (bl before) → ((rest = before ∧ ∀ v, bl before v = true → bl left v = false → ¬ spd N (bl before) v) ∨ fb_ct (bl rest) 64 < fb_ct (bl before) 64) → zz_G mX1_needed (d + 3) 0 36 [some (.ref 8), some (.long free), none, some (.long rest), none, some (.int (nI mo)), some (.int (nI sw)), some (.long before), none, some (.long left), none, some (.int (nI n)), some (.int (nI i)), z13] [] M I J Q := by
    intro before mo sw n hb hn hk q
    induction q with
    | zero =>
      intro i left rest z13 hi hc g1 g2 g3 g4
      have e : i = n := by omega
      subst e
      refine zz_iload rfl dX1_needed_36 ?_
      refine zz_iload rfl dX1_needed_38 ?_
      try dsimp only [zz_s1, zz_s2, zz_kill, zz_ent, zz_fl, List.set_cons_zero, List.set_cons_succ, List.getElem?_cons_zero, List.getElem?_cons_succ, Option.toList_some, Option.toList_none, List.cons_append, List.nil_append, List.append_nil, List.length_cons, List.length_nil, List.replicate_succ, List.replicate_zero, Nat.reduceAdd, Nat.reduceSub]
      refine zz_icmp_ge (tgt := 86) dX1_needed_40 (by decide) (fun h => ?_) (fun h => ?_)
      · refine hk rest _ _ _ g2 g3 (g4.imp (fun z => ⟨z.1, fun v hv => z.2 v hv ?_⟩) id)
        rw [ct0 hc]
        exact bl_0 v
      · exact absurd (nI_le (Nat.le_refl i) (by omega)) h
    | succ q ih =>
      intro i left rest z13 hi hc g1 g2 g3 g4
      obtain ⟨u, hu, hl⟩ := ctn hc
      have hur := g1 u hl.1
      have hub := g2 u hur
      have huW := hb u hub
      have hrs : sb rest W := fun w hw => hb w (g2 w hw)
      have hc2 := ct_rm hu hl.1
      rw [← bd hl] at hc2
      refine zz_iload rfl dX1_needed_36 ?_
      refine zz_iload rfl dX1_needed_38 ?_
      try dsimp only [zz_s1, zz_s2, zz_kill, zz_ent, zz_fl, List.set_cons_zero, List.set_cons_succ, List.getElem?_cons_zero, List.getElem?_cons_succ, Option.toList_some, Option.toList_none, List.cons_append, List.nil_append, List.append_nil, List.length_cons, List.length_nil, List.replicate_succ, List.replicate_zero, Nat.reduceAdd, Nat.reduceSub]
      refine zz_icmp_ge (tgt := 86) dX1_needed_40 (by decide) (fun h => ?_) (fun h => ?_)
      · exact absurd h (nI_ge (by omega) (by omega))
      · skip
        refine zz_lload rfl dX1_needed_43 ?_
        try dsimp only [zz_s1, zz_s2, zz_kill, zz_ent, zz_fl, List.set_cons_zero, List.set_cons_succ, List.getElem?_cons_zero, List.getElem?_cons_succ, Option.toList_some, Option.toList_none, List.cons_append, List.nil_append, List.append_nil, List.length_cons, List.length_nil, List.replicate_succ, List.replicate_zero, Nat.reduceAdd, Nat.reduceSub]
        refine zz_cSN1 dX1_needed_45 lX1_85 rfl (Nat.le_of_ble_eq_true rfl) (Nat.le_of_ble_eq_true rfl) ?_
        refine sp_lowest (d + 1) hl ?_
        try dsimp only [zz_s1, zz_s2, zz_kill, zz_ent, zz_fl, List.set_cons_zero, List.set_cons_succ, List.getElem?_cons_zero, List.getElem?_cons_succ, Option.toList_some, Option.toList_none, List.cons_append, List.nil_append, List.append_nil, List.length_cons, List.length_nil, List.replicate_succ, List.replicate_zero, Nat.reduceAdd, Nat.reduceSub]
        refine zz_istore dX1_needed_48 (by decide) ?_
        refine zz_lload rfl dX1_needed_50 ?_
        refine zz_lload rfl dX1_needed_52 ?_
        refine zz_lconst (v := 1) (by decide) dX1_needed_54 ?_
        refine zz_lsub dX1_needed_55 ?_
        refine zz_land dX1_needed_56 ?_
        refine zz_lstore dX1_needed_57 (by decide) ?_
        refine zz_aload_n rfl dX1_needed_59 ?_
        refine zz_iload rfl dX1_needed_60 ?_
        refine zz_lload_n rfl dX1_needed_62 ?_
        try dsimp only [zz_s1, zz_s2, zz_kill, zz_ent, zz_fl, List.set_cons_zero, List.set_cons_succ, List.getElem?_cons_zero, List.getElem?_cons_succ, Option.toList_some, Option.toList_none, List.cons_append, List.nil_append, List.append_nil, List.length_cons, List.length_nil, List.replicate_succ, List.replicate_zero, Nat.reduceAdd, Nat.reduceSub]
        refine zz_cV2 dX1_needed_63 lX1_88 rfl (os_8 hO) rfl rfl (Nat.le_of_ble_eq_true rfl) (Nat.le_of_ble_eq_true rfl) ?_
        refine sp_canBeSpared d hO hW hN huW hrs (fun r hr => ?_)
        try dsimp only [zz_s1, zz_s2, zz_kill, zz_ent, zz_fl, List.set_cons_zero, List.set_cons_succ, List.getElem?_cons_zero, List.getElem?_cons_succ, Option.toList_some, Option.toList_none, List.cons_append, List.nil_append, List.append_nil, List.length_cons, List.length_nil, List.replicate_succ, List.replicate_zero, Nat.reduceAdd, Nat.reduceSub]
        refine zz_if_eq (tgt := 80) dX1_needed_66 (by decide) (fun h2 => ?_) (fun h2 => ?_)
        · refine zz_iinc dX1_needed_80 rfl (congrArg (HAdd.hAdd _) (show Int32.ofInt 1 = 1 by decide)) (by decide) ?_
          refine zz_goto (tgt := 36) dX1_needed_83 (by decide) ?_
          try dsimp only [zz_s1, zz_s2, zz_kill, zz_ent, zz_fl, List.set_cons_zero, List.set_cons_succ, List.getElem?_cons_zero, List.getElem?_cons_succ, Option.toList_some, Option.toList_none, List.cons_append, List.nil_append, List.append_nil, List.length_cons, List.length_nil, List.replicate_succ, List.replicate_zero, Nat.reduceAdd, Nat.reduceSub]
          rw [nI_1]
          refine ih (i + 1) _ rest _ (by omega) (by omega) (fun w hw => ?_) g2 g3 (g4.imp (fun z => ⟨z.1, fun v hv hn2 => ?_⟩) id)
          · rw [bd hl, rm_t] at hw; exact g1 w hw.1
          · by_cases e : v = u
            · rw [e, ← z.1]; exact hr.f h2
            · refine z.2 v hv ?_
              rw [bd hl] at hn2
              unfold rm at hn2
              simpa [e] using hn2
        · skip
          obtain ⟨t, t1, t2, t3, t4⟩ := hr.t h2
          have ea : al N 64 (bl rest) = al N 64 (rm (bl rest) u) := al_dom sy rf hu hur (bl_lt t1) t1 t2 t4
          have ec := ct_rm hu hur
          refine zz_lload_n rfl dX1_needed_69 ?_
          refine zz_lconst (v := 1) (by decide) dX1_needed_70 ?_
          refine zz_iload rfl dX1_needed_71 ?_
          refine zz_lshl dX1_needed_73 ?_
          refine zz_ldc2 tX1_41 dX1_needed_74 ?_
          refine zz_lxor dX1_needed_77 ?_
          refine zz_land dX1_needed_78 ?_
          refine zz_lstore_n dX1_needed_79 (by decide) ?_
          refine zz_iinc dX1_needed_80 rfl (congrArg (HAdd.hAdd _) (show Int32.ofInt 1 = 1 by decide)) (by decide) ?_
          refine zz_goto (tgt := 36) dX1_needed_83 (by decide) ?_
          try dsimp only [zz_s1, zz_s2, zz_kill, zz_ent, zz_fl, List.set_cons_zero, List.set_cons_succ, List.getElem?_cons_zero, List.getElem?_cons_succ, Option.toList_some, Option.toList_none, List.cons_append, List.nil_append, List.append_nil, List.length_cons, List.length_nil, List.replicate_succ, List.replicate_zero, Nat.reduceAdd, Nat.reduceSub]
          rw [nI_1]
          refine ih (i + 1) _ _ _ (by omega) (by omega) (fun w hw => ?_) (fun w hw => ?_) ?_ (Or.inr ?_)
          · rw [bd hl, rm_t] at hw
            rw [br1 _ hu, rm_t]
            exact ⟨g1 w hw.1, hw.2⟩
          · rw [br1 _ hu, rm_t] at hw; exact g2 w hw.1
          · rw [br1 _ hu, ← ea]; exact g3
          · rw [br1 _ hu]
            have : fb_ct (bl rest) 64 ≤ fb_ct (bl before) 64 := fb_ct_sub (fun k _ z => g2 k z)
            omega
  have outer : ∀ (q sw mo : Nat) (rest : Int64) (z7 z9 z11 z12 z13 : Option Value), sw + q = 64 → (∀ w, bl rest w = true → bl free w = true) → al N 64 (bl rest) = al N 64 (bl free) → ((mo = 0 ∧ ∀ v, bl rest v = true → ¬ spd N (bl rest) v) ∨ (mo = 1 ∧ fb_ct (bl rest) 64 ≤ q)) → zz_G mX1_needed (d + 3) 0 8 [some (.ref 8), some (.long free), none, some (.long rest), none, some (.int (nI mo)), some (.int (nI sw)), z7, none, z9, none, z11, z12, z13] [] M I J Q := by
    intro q
    induction q with
    | zero =>
      intro sw mo rest z7 z9 z11 z12 z13 hs g1 g2 g3
      have e : sw = 64 := by omega
      subst e
      refine zz_iload rfl dX1_needed_8 ?_
      refine zz_bipush (v := 64) (by decide) dX1_needed_10 ?_
      try dsimp only [zz_s1, zz_s2, zz_kill, zz_ent, zz_fl, List.set_cons_zero, List.set_cons_succ, List.getElem?_cons_zero, List.getElem?_cons_succ, Option.toList_some, Option.toList_none, List.cons_append, List.nil_append, List.append_nil, List.length_cons, List.length_nil, List.replicate_succ, List.replicate_zero, Nat.reduceAdd, Nat.reduceSub]
      refine zz_icmp_ge (tgt := 106) dX1_needed_12 (by decide) (fun h => ?_) (fun h => ?_)
      · refine zz_lload_n rfl dX1_needed_106 ?_
        refine zz_lreturn dX1_needed_107 rfl ?_
        refine hQ rest g1 g2 ?_
        rcases g3 with z | z
        · exact z.2
        · intro v hv
          rw [ct0 (x := rest) (by omega), bl_0] at hv
          cases hv
      · exact absurd (Int32.le_refl _) h
    | succ q ih =>
      intro sw mo rest z7 z9 z11 z12 z13 hs g1 g2 g3
      refine zz_iload rfl dX1_needed_8 ?_
      refine zz_bipush (v := 64) (by decide) dX1_needed_10 ?_
      try dsimp only [zz_s1, zz_s2, zz_kill, zz_ent, zz_fl, List.set_cons_zero, List.set_cons_succ, List.getElem?_cons_zero, List.getElem?_cons_succ, Option.toList_some, Option.toList_none, List.cons_append, List.nil_append, List.append_nil, List.length_cons, List.length_nil, List.replicate_succ, List.replicate_zero, Nat.reduceAdd, Nat.reduceSub]
      refine zz_icmp_ge (tgt := 106) dX1_needed_12 (by decide) (fun h => ?_) (fun h => ?_)
      · exact absurd h (nI_ge (b := 64) (by omega) (by decide))
      · skip
        refine zz_iload rfl dX1_needed_15 ?_
        try dsimp only [zz_s1, zz_s2, zz_kill, zz_ent, zz_fl, List.set_cons_zero, List.set_cons_succ, List.getElem?_cons_zero, List.getElem?_cons_succ, Option.toList_some, Option.toList_none, List.cons_append, List.nil_append, List.append_nil, List.length_cons, List.length_nil, List.replicate_succ, List.replicate_zero, Nat.reduceAdd, Nat.reduceSub]
        refine zz_if_eq (tgt := 106) dX1_needed_17 (by decide) (fun h2 => ?_) (fun h2 => ?_)
        · rcases g3 with z | z
          · refine zz_lload_n rfl dX1_needed_106 ?_
            refine zz_lreturn dX1_needed_107 rfl ?_
            exact hQ rest g1 g2 z.2
          · rw [z.1] at h2; exact absurd h2 (by decide)
        · skip
          rcases g3 with z | z
          · rw [z.1] at h2; exact absurd rfl h2
          · have hc64 := ct64 rest
            refine zz_lload_n rfl dX1_needed_20 ?_
            refine zz_lstore dX1_needed_21 (by decide) ?_
            refine zz_lload_n rfl dX1_needed_23 ?_
            refine zz_lstore dX1_needed_24 (by decide) ?_
            refine zz_lload rfl dX1_needed_26 ?_
            try dsimp only [zz_s1, zz_s2, zz_kill, zz_ent, zz_fl, List.set_cons_zero, List.set_cons_succ, List.getElem?_cons_zero, List.getElem?_cons_succ, Option.toList_some, Option.toList_none, List.cons_append, List.nil_append, List.append_nil, List.length_cons, List.length_nil, List.replicate_succ, List.replicate_zero, Nat.reduceAdd, Nat.reduceSub]
            refine zz_cS1 dX1_needed_28 lX1_73 rfl (Nat.le_of_ble_eq_true rfl) (Nat.le_of_ble_eq_true rfl) ?_
            refine sp_bitCountJ (d + 2) ?_
            try dsimp only [zz_s1, zz_s2, zz_kill, zz_ent, zz_fl, List.set_cons_zero, List.set_cons_succ, List.getElem?_cons_zero, List.getElem?_cons_succ, Option.toList_some, Option.toList_none, List.cons_append, List.nil_append, List.append_nil, List.length_cons, List.length_nil, List.replicate_succ, List.replicate_zero, Nat.reduceAdd, Nat.reduceSub]
            refine zz_istore dX1_needed_31 (by decide) ?_
            refine zz_iconst (v := 0) (by decide) dX1_needed_33 ?_
            refine zz_istore dX1_needed_34 (by decide) ?_
            try dsimp only [zz_s1, zz_s2, zz_kill, zz_ent, zz_fl, List.set_cons_zero, List.set_cons_succ, List.getElem?_cons_zero, List.getElem?_cons_succ, Option.toList_some, Option.toList_none, List.cons_append, List.nil_append, List.append_nil, List.length_cons, List.length_nil, List.replicate_succ, List.replicate_zero, Nat.reduceAdd, Nat.reduceSub]
            refine inner rest mo sw _ (fun w hw => hf w (g1 w hw)) hc64 (fun rest' z9 z13 i k1 k2 k3 => ?_) _ 0 rest rest _ (Nat.zero_add _) rfl (fun _ z => z) (fun _ z => z) rfl (Or.inl ⟨rfl, fun v a b => by rw [a] at b; cases b⟩)
            refine zz_lload_n rfl dX1_needed_86 ?_
            refine zz_lload rfl dX1_needed_87 ?_
            refine zz_lcmp dX1_needed_89 ?_
            try dsimp only [zz_s1, zz_s2, zz_kill, zz_ent, zz_fl, List.set_cons_zero, List.set_cons_succ, List.getElem?_cons_zero, List.getElem?_cons_succ, Option.toList_some, Option.toList_none, List.cons_append, List.nil_append, List.append_nil, List.length_cons, List.length_nil, List.replicate_succ, List.replicate_zero, Nat.reduceAdd, Nat.reduceSub]
            refine zz_if_eq (tgt := 97) dX1_needed_90 (by decide) (fun h3 => ?_) (fun h3 => ?_)
            · refine zz_iconst (v := 0) (by decide) dX1_needed_97 ?_
              refine zz_istore dX1_needed_98 (by decide) ?_
              refine zz_iinc dX1_needed_100 rfl (congrArg (HAdd.hAdd _) (show Int32.ofInt 1 = 1 by decide)) (by decide) ?_
              refine zz_goto (tgt := 8) dX1_needed_103 (by decide) ?_
              try dsimp only [zz_s1, zz_s2, zz_kill, zz_ent, zz_fl, List.set_cons_zero, List.set_cons_succ, List.getElem?_cons_zero, List.getElem?_cons_succ, Option.toList_some, Option.toList_none, List.cons_append, List.nil_append, List.append_nil, List.length_cons, List.length_nil, List.replicate_succ, List.replicate_zero, Nat.reduceAdd, Nat.reduceSub]
              rw [nI_1]
              have e3 : rest' = rest := cmp_eq.mp h3
              subst e3
              refine ih (sw + 1) 0 rest' _ _ _ _ _ (by omega) g1 g2 (Or.inl ⟨rfl, ?_⟩)
              rcases k3 with k3 | k3
              · exact k3.2
              · omega
            · skip
              refine zz_iconst (v := 1) (by decide) dX1_needed_93 ?_
              refine zz_goto (tgt := 98) dX1_needed_94 (by decide) ?_
              refine zz_istore dX1_needed_98 (by decide) ?_
              refine zz_iinc dX1_needed_100 rfl (congrArg (HAdd.hAdd _) (show Int32.ofInt 1 = 1 by decide)) (by decide) ?_
              refine zz_goto (tgt := 8) dX1_needed_103 (by decide) ?_
              try dsimp only [zz_s1, zz_s2, zz_kill, zz_ent, zz_fl, List.set_cons_zero, List.set_cons_succ, List.getElem?_cons_zero, List.getElem?_cons_succ, Option.toList_some, Option.toList_none, List.cons_append, List.nil_append, List.append_nil, List.length_cons, List.length_nil, List.replicate_succ, List.replicate_zero, Nat.reduceAdd, Nat.reduceSub]
              rw [nI_1]
              refine ih (sw + 1) 1 rest' _ _ _ _ _ (by omega) (fun w hw => g1 w (k1 w hw)) (k2.trans g2) (Or.inr ⟨rfl, ?_⟩)
              rcases k3 with k3 | k3
              · exact absurd (cmp_eq.mpr k3.1) h3
              · omega
  exact outer 64 0 1 free _ _ _ _ _ (by omega) (fun _ z => z) rfl (Or.inr ⟨rfl, ct64 free⟩)
/-- the words of a set with no other near them -/
theorem sp_loneWords (d : Nat) (hO : OK M) (hW : W ≤ 64) (rf : ∀ x, N x x = true) (hN : NB J W N) {free : Int64} (hf : sb free W) (hQ : ∀ x : Int64, (∀ v, bl x v = true ↔ bl free v = true ∧ ∀ w, bl free w = true → N v w = true → w = v) → Q (some (.long x)) M I J) : zz_D mX1_loneWords (d + 2) [.ref 8, .long free] M I J Q := by
  refine zz_D_of rfl (Nat.le_of_ble_eq_true rfl) ?_
  try dsimp only [zz_s1, zz_s2, zz_kill, zz_ent, zz_fl, List.set_cons_zero, List.set_cons_succ, List.getElem?_cons_zero, List.getElem?_cons_succ, Option.toList_some, Option.toList_none, List.cons_append, List.nil_append, List.append_nil, List.length_cons, List.length_nil, List.replicate_succ, List.replicate_zero, Nat.reduceAdd, Nat.reduceSub]
  refine zz_lconst (v := 0) (by decide) dX1_loneWords_0 ?_
  refine zz_lstore_n dX1_loneWords_1 (by decide) ?_
  refine zz_lload_n rfl dX1_loneWords_2 ?_
  refine zz_lstore dX1_loneWords_3 (by decide) ?_
  refine zz_lload rfl dX1_loneWords_5 ?_
  try dsimp only [zz_s1, zz_s2, zz_kill, zz_ent, zz_fl, List.set_cons_zero, List.set_cons_succ, List.getElem?_cons_zero, List.getElem?_cons_succ, Option.toList_some, Option.toList_none, List.cons_append, List.nil_append, List.append_nil, List.length_cons, List.length_nil, List.replicate_succ, List.replicate_zero, Nat.reduceAdd, Nat.reduceSub]
  refine zz_cS1 dX1_loneWords_7 lX1_73 rfl (Nat.le_of_ble_eq_true rfl) (Nat.le_of_ble_eq_true rfl) ?_
  refine sp_bitCountJ (d + 1) ?_
  try dsimp only [zz_s1, zz_s2, zz_kill, zz_ent, zz_fl, List.set_cons_zero, List.set_cons_succ, List.getElem?_cons_zero, List.getElem?_cons_succ, Option.toList_some, Option.toList_none, List.cons_append, List.nil_append, List.append_nil, List.length_cons, List.length_nil, List.replicate_succ, List.replicate_zero, Nat.reduceAdd, Nat.reduceSub]
  refine zz_istore dX1_loneWords_10 (by decide) ?_
  refine zz_iconst (v := 0) (by decide) dX1_loneWords_12 ?_
  refine zz_istore dX1_loneWords_13 (by decide) ?_
  try dsimp only [zz_s1, zz_s2, zz_kill, zz_ent, zz_fl, List.set_cons_zero, List.set_cons_succ, List.getElem?_cons_zero, List.getElem?_cons_succ, Option.toList_some, Option.toList_none, List.cons_append, List.nil_append, List.append_nil, List.length_cons, List.length_nil, List.replicate_succ, List.replicate_zero, Nat.reduceAdd, Nat.reduceSub]
  have hn64 := ct64 free
  generalize hn : fb_ct (bl free) 64 = n at *
  have loop : ∀ (q i : Nat) (left lone : Int64) (z9 : Option Value), i + q = n → fb_ct (bl left) 64 = q → (∀ w, bl left w = true → bl free w = true) → (∀ v, bl lone v = true ↔ (bl free v = true ∧ bl left v = false) ∧ ∀ w, bl free w = true → N v w = true → w = v) → zz_G mX1_loneWords (d + 2) 0 15 [some (.ref 8), some (.long free), none, some (.long lone), none, some (.long left), none, some (.int (nI n)), some (.int (nI i)), z9] [] M I J Q := by
    intro q
    induction q with
    | zero =>
      intro i left lone z9 hi hc g1 g2
      have e : i = n := by omega
      subst e
      refine zz_iload rfl dX1_loneWords_15 ?_
      refine zz_iload rfl dX1_loneWords_17 ?_
      try dsimp only [zz_s1, zz_s2, zz_kill, zz_ent, zz_fl, List.set_cons_zero, List.set_cons_succ, List.getElem?_cons_zero, List.getElem?_cons_succ, Option.toList_some, Option.toList_none, List.cons_append, List.nil_append, List.append_nil, List.length_cons, List.length_nil, List.replicate_succ, List.replicate_zero, Nat.reduceAdd, Nat.reduceSub]
      refine zz_icmp_ge (tgt := 68) dX1_loneWords_19 (by decide) (fun h => ?_) (fun h => ?_)
      · refine zz_lload_n rfl dX1_loneWords_68 ?_
        refine zz_lreturn dX1_loneWords_69 rfl ?_
        refine hQ lone (fun v => (g2 v).trans ⟨fun z => ⟨z.1.1, z.2⟩, fun z => ⟨⟨z.1, ?_⟩, z.2⟩⟩)
        rw [ct0 hc]
        exact bl_0 v
      · exact absurd (nI_le (Nat.le_refl i) (by omega)) h
    | succ q ih =>
      intro i left lone z9 hi hc g1 g2
      obtain ⟨u, hu, hl⟩ := ctn hc
      have huf := g1 u hl.1
      have huW := hf u huf
      have hc2 := ct_rm hu hl.1
      rw [← bd hl] at hc2
      have ln : ∀ v, bl (left &&& (left - 1)) v = false ↔ (bl left v = false ∨ v = u) := fun v => by
        rw [bd hl]
        unfold rm
        by_cases e : v = u <;> simp [e]
      have e1 : (free &&& J 9 u = jv_lshl 1 (nI u)) ↔ ∀ w, bl free w = true → N u w = true → w = u := by
        constructor
        · intro e w a b
          have := nba hN hf huW w
          rw [e, bl_one' hu, a, b] at this
          simpa using this
        · intro e
          refine bl_ext (fun w hw => ?_)
          rw [nba hN hf huW, bl_one' hu, Bool.eq_iff_iff]
          simp only [Bool.and_eq_true, decide_eq_true_eq]
          exact ⟨fun z => e w z.1 z.2, fun z => by rw [z]; exact ⟨huf, rf u⟩⟩
      refine zz_iload rfl dX1_loneWords_15 ?_
      refine zz_iload rfl dX1_loneWords_17 ?_
      try dsimp only [zz_s1, zz_s2, zz_kill, zz_ent, zz_fl, List.set_cons_zero, List.set_cons_succ, List.getElem?_cons_zero, List.getElem?_cons_succ, Option.toList_some, Option.toList_none, List.cons_append, List.nil_append, List.append_nil, List.length_cons, List.length_nil, List.replicate_succ, List.replicate_zero, Nat.reduceAdd, Nat.reduceSub]
      refine zz_icmp_ge (tgt := 68) dX1_loneWords_19 (by decide) (fun h => ?_) (fun h => ?_)
      · exact absurd h (nI_ge (by omega) (by omega))
      · skip
        refine zz_lload rfl dX1_loneWords_22 ?_
        try dsimp only [zz_s1, zz_s2, zz_kill, zz_ent, zz_fl, List.set_cons_zero, List.set_cons_succ, List.getElem?_cons_zero, List.getElem?_cons_succ, Option.toList_some, Option.toList_none, List.cons_append, List.nil_append, List.append_nil, List.length_cons, List.length_nil, List.replicate_succ, List.replicate_zero, Nat.reduceAdd, Nat.reduceSub]
        refine zz_cSN1 dX1_loneWords_24 lX1_85 rfl (Nat.le_of_ble_eq_true rfl) (Nat.le_of_ble_eq_true rfl) ?_
        refine sp_lowest d hl ?_
        try dsimp only [zz_s1, zz_s2, zz_kill, zz_ent, zz_fl, List.set_cons_zero, List.set_cons_succ, List.getElem?_cons_zero, List.getElem?_cons_succ, Option.toList_some, Option.toList_none, List.cons_append, List.nil_append, List.append_nil, List.length_cons, List.length_nil, List.replicate_succ, List.replicate_zero, Nat.reduceAdd, Nat.reduceSub]
        refine zz_istore dX1_loneWords_27 (by decide) ?_
        refine zz_lload rfl dX1_loneWords_29 ?_
        refine zz_lload rfl dX1_loneWords_31 ?_
        refine zz_lconst (v := 1) (by decide) dX1_loneWords_33 ?_
        refine zz_lsub dX1_loneWords_34 ?_
        refine zz_land dX1_loneWords_35 ?_
        refine zz_lstore dX1_loneWords_36 (by decide) ?_
        refine zz_lload_n rfl dX1_loneWords_38 ?_
        refine zz_aload_n rfl dX1_loneWords_39 ?_
        refine zz_getr dX1_loneWords_40 fX1_9 (fun _ _ _ _ => rfl) (os_8 hO) (or_8_0 hO) ?_
        refine zz_iload rfl dX1_loneWords_43 ?_
        refine zz_lald dX1_loneWords_45 (os_9 hO) (vp_in_nI hu (by decide)) ?_
        refine zz_land dX1_loneWords_46 ?_
        refine zz_lconst (v := 1) (by decide) dX1_loneWords_47 ?_
        refine zz_iload rfl dX1_loneWords_48 ?_
        refine zz_lshl dX1_loneWords_50 ?_
        refine zz_lcmp dX1_loneWords_51 ?_
        try dsimp only [zz_s1, zz_s2, zz_kill, zz_ent, zz_fl, List.set_cons_zero, List.set_cons_succ, List.getElem?_cons_zero, List.getElem?_cons_succ, Option.toList_some, Option.toList_none, List.cons_append, List.nil_append, List.append_nil, List.length_cons, List.length_nil, List.replicate_succ, List.replicate_zero, Nat.reduceAdd, Nat.reduceSub]
        rw [nI_clamp (show u < 2 ^ 31 by omega)]
        refine zz_if_ne (tgt := 62) dX1_loneWords_52 (by decide) (fun h2 => ?_) (fun h2 => ?_)
        · have h3 : ¬ ∀ w, bl free w = true → N u w = true → w = u := fun z => h2 (cmp_eq.mpr (e1.mpr z))
          refine zz_iinc dX1_loneWords_62 rfl (congrArg (HAdd.hAdd _) (show Int32.ofInt 1 = 1 by decide)) (by decide) ?_
          refine zz_goto (tgt := 15) dX1_loneWords_65 (by decide) ?_
          try dsimp only [zz_s1, zz_s2, zz_kill, zz_ent, zz_fl, List.set_cons_zero, List.set_cons_succ, List.getElem?_cons_zero, List.getElem?_cons_succ, Option.toList_some, Option.toList_none, List.cons_append, List.nil_append, List.append_nil, List.length_cons, List.length_nil, List.replicate_succ, List.replicate_zero, Nat.reduceAdd, Nat.reduceSub]
          rw [nI_1]
          refine ih (i + 1) _ lone _ (by omega) (by omega) (fun w hw => ?_) (fun v => (g2 v).trans ⟨fun z => ⟨⟨z.1.1, (ln v).mpr (Or.inl z.1.2)⟩, z.2⟩, fun z => ⟨⟨z.1.1, ?_⟩, z.2⟩⟩)
          · rw [bd hl, rm_t] at hw; exact g1 w hw.1
          · rcases (ln v).mp z.1.2 with y | y
            · exact y
            · rw [y] at z; exact absurd z.2 h3
        · skip
          have h3 := e1.mp (cmp_eq.mp h2)
          refine zz_lload_n rfl dX1_loneWords_55 ?_
          refine zz_lconst (v := 1) (by decide) dX1_loneWords_56 ?_
          refine zz_iload rfl dX1_loneWords_57 ?_
          refine zz_lshl dX1_loneWords_59 ?_
          refine zz_lor dX1_loneWords_60 ?_
          refine zz_lstore_n dX1_loneWords_61 (by decide) ?_
          refine zz_iinc dX1_loneWords_62 rfl (congrArg (HAdd.hAdd _) (show Int32.ofInt 1 = 1 by decide)) (by decide) ?_
          refine zz_goto (tgt := 15) dX1_loneWords_65 (by decide) ?_
          try dsimp only [zz_s1, zz_s2, zz_kill, zz_ent, zz_fl, List.set_cons_zero, List.set_cons_succ, List.getElem?_cons_zero, List.getElem?_cons_succ, Option.toList_some, Option.toList_none, List.cons_append, List.nil_append, List.append_nil, List.length_cons, List.length_nil, List.replicate_succ, List.replicate_zero, Nat.reduceAdd, Nat.reduceSub]
          rw [nI_1]
          refine ih (i + 1) _ _ _ (by omega) (by omega) (fun w hw => ?_) (fun v => ?_)
          · rw [bd hl, rm_t] at hw; exact g1 w hw.1
          · rw [bl_or, bl_one' hu, Bool.or_eq_true, decide_eq_true_eq, g2 v, ln v]
            constructor
            · rintro (z | z)
              · exact ⟨⟨z.1.1, Or.inl z.1.2⟩, z.2⟩
              · rw [z]; exact ⟨⟨huf, Or.inr rfl⟩, h3⟩
            · rintro ⟨⟨a, b | b⟩, c⟩
              · exact Or.inl ⟨⟨a, b⟩, c⟩
              · exact Or.inr b
  exact loop n 0 free 0 _ (by omega) hn (fun _ z => z) (fun v => ⟨fun z => absurd z (by rw [bl_0]; decide), fun z => absurd z.1.2 (by rw [z.1.1]; decide)⟩)
end PNeeded

