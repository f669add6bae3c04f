/-! ===== ways of the class ===== -/
/-- how many of the largest codes -/
def cx (N : Nat → Nat → Bool) (A : Nat → Bool) : Nat := cn N 64 A (al N 64 A)
section Cx
variable {N : Nat → Nat → Bool}
theorem cx_0 {A : Nat → Bool} (h : ∀ w, w < 64 → A w = false) : cx N A = 1 := by
  unfold cx
  rw [al_0 h, cn_0]
theorem cx_ext {A B : Nat → Bool} (h : ∀ w, w < 64 → A w = B w) : cx N A = cx N B := by
  unfold cx
  rw [al_ext h, cn_ext h]
theorem cx_apt (sy : ∀ x y, N x y = N y x) (rf : ∀ x, N x x = true) {A : Nat → Bool} {v : Nat} (hv : v < 64) (av : A v = true) (h : apt N A v) : cx N A = fb_ct (fun w => A w && N v w) 64 * cx N (mi A (N v)) := apt_max sy rf hv av h
theorem cx_br (sy : ∀ x y, N x y = N y x) (rf : ∀ x, N x x = true) {A : Nat → Bool} {v : Nat} (hv : v < 64) (av : A v = true) : (al N 64 (rm A v) = 1 + al N 64 (mi A (N v)) → cx N A = cx N (rm A v) + cx N (mi A (N v))) ∧ (al N 64 (rm A v) < 1 + al N 64 (mi A (N v)) → cx N A = cx N (mi A (N v))) ∧ (1 + al N 64 (mi A (N v)) < al N 64 (rm A v) → cx N A = cx N (rm A v)) := by
  have h1 := al_br sy rf hv av
  have h2 : ∀ m, cn N 64 A (m + 1) = cn N 64 (rm A v) (m + 1) + cn N 64 (mi A (N v)) m := fun m => cn_br sy rf hv av
  have b1 : ∀ m, al N 64 (rm A v) < m → cn N 64 (rm A v) m = 0 := fun m h => cn_big h
  have b2 : ∀ m, al N 64 (mi A (N v)) < m → cn N 64 (mi A (N v)) m = 0 := fun m h => cn_big h
  unfold cx
  generalize al N 64 A = a at *
  generalize al N 64 (rm A v) = r at *
  generalize al N 64 (mi A (N v)) = s at *
  refine ⟨fun h => ?_, fun h => ?_, fun h => ?_⟩
  · have e1 : a = s + 1 := by omega
    have e2 : r = s + 1 := by omega
    rw [e1, e2]
    exact h2 s
  · have e1 : a = s + 1 := by omega
    rw [e1, h2 s, b1 (s + 1) (by omega), Nat.zero_add]
  · obtain ⟨r', e2⟩ : ∃ r', r = r' + 1 := ⟨r - 1, by omega⟩
    have e1 : a = r' + 1 := by omega
    rw [e1, e2, h2 r', b2 r' (by omega), Nat.add_zero]
theorem cx_le {A : Nat → Bool} (h : ∀ w, A w = true → w < 24) : cx N A ≤ 2 ^ 24 := by
  unfold cx
  have := cn_cut (N := N) (j := 24) (m := al N 64 A) (A := A) (fun w hw => by
    cases c : A w with
    | false => rfl
    | true => have := h w c; omega) 40
  have h2 : cn N 24 A (al N 64 A) ≤ 2 ^ 24 := cn_le
  rw [show (24 + 40 : Nat) = 64 from rfl] at this
  rw [this]
  exact h2
end Cx
/-- size and number in one long -/
def tv (N : Nat → Nat → Bool) (A : Nat → Bool) : Nat := al N 64 A * 2 ^ 32 + cx N A
theorem apt_not {N : Nat → Nat → Bool} (sy : ∀ x y, N x y = N y x) {A : Nat → Bool} {v b : Nat} (av : A v = true) (hv : apt N A v) (ab : A b = true) (hb : ¬ apt N A b) : N v b = false ∧ ¬ apt N (mi A (N v)) b := by
  have h1 : N v b = false := by
    cases c : N v b with
    | false => rfl
    | true =>
      refine absurd (fun u au hu w aw => ?_) hb
      have e1 := hv b ab c u au
      rw [hu] at e1
      rw [hv u au e1.symm w aw, hv b ab c w aw]
  refine ⟨h1, fun h => hb (fun u au hu w aw => ?_)⟩
  have hvu : N v u = false := by
    cases c : N v u with
    | false => rfl
    | true =>
      have e1 := hv u au c b ab
      rw [sy u b, hu, h1] at e1
      cases e1
  by_cases hw : N v w = true
  · have e1 := hv w aw hw u au
    have e2 := hv w aw hw b ab
    rw [sy u w, sy b w, e1, e2, hvu, h1]
  · have hw : N v w = false := by simpa using hw
    exact h u (mi_t.mpr ⟨au, hvu⟩) hu w (mi_t.mpr ⟨aw, hw⟩)
theorem hi_lo {a c : Nat} (hc : c < 2 ^ 32) : (a * 2 ^ 32 + c) / 2 ^ 32 = a ∧ (a * 2 ^ 32 + c) % 2 ^ 32 = c := by
  constructor
  · rw [Nat.add_comm, Nat.add_mul_div_right _ _ (by decide), Nat.div_eq_of_lt hc, Nat.zero_add]
  · rw [Nat.add_comm, Nat.add_mul_mod_self_right, Nat.mod_eq_of_lt hc]
theorem sh_hi {a c : Nat} (ha : a < 2 ^ 30) (hc : c < 2 ^ 32) : jv_lushr (lN (a * 2 ^ 32 + c)) 32 = lN a := by
  rw [show (32 : Int32) = nI 32 from rfl, ls_lN (by omega) (by decide), (hi_lo hc).1]
theorem an_lo {a c : Nat} (ha : a < 2 ^ 30) (hc : c < 2 ^ 32) : lN (a * 2 ^ 32 + c) &&& 4294967295 = lN c := by
  rw [show (4294967295 : Int64) = lN (2 ^ 32 - 1) from rfl, wb_mask (by omega) (by decide), (hi_lo hc).2]
theorem nI_lo (a c : Nat) : nI (a * 2 ^ 32 + c) = nI c := by
  apply Int32.toBitVec_inj.mp
  show BitVec.ofNat 32 _ = BitVec.ofNat 32 _
  apply BitVec.eq_of_toNat_eq
  rw [BitVec.toNat_ofNat, BitVec.toNat_ofNat, Nat.add_comm, Nat.add_mul_mod_self_right]
section PTally
variable {M : zz_M} {W : Nat} {N : Nat → Nat → Bool}
theorem sp_joinTallies {I : zz_I} {J : zz_J} {Q : zz_Q} (d : Nat) {a1 c1 a2 c2 : Nat} (h1 : a1 < 2 ^ 20) (h2 : c1 < 2 ^ 32) (h3 : a2 < 2 ^ 20) (h4 : c2 < 2 ^ 32) (hQ : Q (some (.long (lN (if a1 = a2 then a1 * 2 ^ 32 + (c1 + c2) else if a1 < a2 then a2 * 2 ^ 32 + c2 else a1 * 2 ^ 32 + c1)))) M I J) : zz_D mX1_joinTallies (d + 1) [.long (lN (a1 * 2 ^ 32 + c1)), .long (lN (a2 * 2 ^ 32 + c2))] M I J Q := by
  refine zz_D_of rfl (Nat.le_of_ble_eq_true rfl) ?_
  try dsimp only [zz_s1, zz_s2, zz_kill, zz_ent, zz_fl, List.set_cons_zero, List.set_cons_succ, List.getElem?_cons_zero, List.getElem?_cons_succ, Option.toList_some, Option.toList_none, List.cons_append, List.nil_append, List.append_nil, List.length_cons, List.length_nil, List.replicate_succ, List.replicate_zero, Nat.reduceAdd, Nat.reduceSub]
  refine zz_lload_n rfl dX1_joinTallies_0 ?_
  refine zz_bipush (v := 32) (by decide) dX1_joinTallies_1 ?_
  refine zz_lushr dX1_joinTallies_3 ?_
  refine zz_lload_n rfl dX1_joinTallies_4 ?_
  refine zz_bipush (v := 32) (by decide) dX1_joinTallies_5 ?_
  refine zz_lushr dX1_joinTallies_7 ?_
  refine zz_lcmp dX1_joinTallies_8 ?_
  try dsimp only [zz_s1, zz_s2, zz_kill, zz_ent, zz_fl, List.set_cons_zero, List.set_cons_succ, List.getElem?_cons_zero, List.getElem?_cons_succ, Option.toList_some, Option.toList_none, List.cons_append, List.nil_append, List.append_nil, List.length_cons, List.length_nil, List.replicate_succ, List.replicate_zero, Nat.reduceAdd, Nat.reduceSub]
  rw [sh_hi (by omega) h2, sh_hi (by omega) h4]
  refine zz_if_ne (tgt := 20) dX1_joinTallies_9 (by decide) (fun h => ?_) (fun h => ?_)
  · have hne : ¬ a1 = a2 := fun z => h (cmp_eq.mpr (by rw [z]))
    rw [if_neg hne] at hQ
    refine zz_lload_n rfl dX1_joinTallies_20 ?_
    refine zz_lload_n rfl dX1_joinTallies_21 ?_
    try dsimp only [zz_s1, zz_s2, zz_kill, zz_ent, zz_fl, List.set_cons_zero, List.set_cons_succ, List.getElem?_cons_zero, List.getElem?_cons_succ, Option.toList_some, Option.toList_none, List.cons_append, List.nil_append, List.append_nil, List.length_cons, List.length_nil, List.replicate_succ, List.replicate_zero, Nat.reduceAdd, Nat.reduceSub]
    refine zz_mmaxL dX1_joinTallies_22 lX1_107 (Nat.le_of_ble_eq_true rfl) ?_
    try dsimp only [zz_s1, zz_s2, zz_kill, zz_ent, zz_fl, List.set_cons_zero, List.set_cons_succ, List.getElem?_cons_zero, List.getElem?_cons_succ, Option.toList_some, Option.toList_none, List.cons_append, List.nil_append, List.append_nil, List.length_cons, List.length_nil, List.replicate_succ, List.replicate_zero, Nat.reduceAdd, Nat.reduceSub]
    refine zz_lreturn dX1_joinTallies_25 rfl ?_
    by_cases c : a1 < a2
    · rw [if_pos c] at hQ
      rw [if_neg (fun z => by have := (pk_lLT (by omega) (by omega)).mp z; omega)]
      exact hQ
    · rw [if_neg c] at hQ
      rw [if_pos ((pk_lLT (by omega) (by omega)).mpr (by omega))]
      exact hQ
  · skip
    have he : a1 = a2 := (pk_lEQ (by omega) (by omega)).mp (cmp_eq.mp h)
    rw [if_pos he] at hQ
    refine zz_lload_n rfl dX1_joinTallies_12 ?_
    refine zz_lload_n rfl dX1_joinTallies_13 ?_
    refine zz_ldc2 tX1_105 dX1_joinTallies_14 ?_
    refine zz_land dX1_joinTallies_17 ?_
    refine zz_ladd dX1_joinTallies_18 ?_
    refine zz_lreturn dX1_joinTallies_19 rfl ?_
    rw [an_lo (by omega) h4, lN_add, Nat.add_assoc]
    exact hQ
theorem sp_standsApart {I : zz_I} {J : zz_J} {Q : zz_Q} (d : Nat) (hO : OK M) (hW : W ≤ 64) (hN : NB J W N) {v : Nat} {rest : Int64} (hr : sb rest W) (hv : v < W) (hQ : ∀ r : Int32, bo r (apt N (bl rest) v) → Q (some (.int r)) M I J) : zz_D mX1_standsApart (d + 2) [.ref 8, .long (J 9 v &&& rest), .long rest] M I J Q := by
  have eg : ∀ w, bl (J 9 v &&& rest) w = (bl rest w && N v w) := fun w => by rw [Int64.and_comm]; exact nba hN hr hv w
  generalize hg : J 9 v &&& rest = group at *
  refine zz_D_of rfl (Nat.le_of_ble_eq_true rfl) ?_
  try dsimp only [zz_s1, zz_s2, zz_kill, zz_ent, zz_fl, List.set_cons_zero, List.set_cons_succ, List.getElem?_cons_zero, List.getElem?_cons_succ, Option.toList_some, Option.toList_none, List.cons_append, List.nil_append, List.append_nil, List.length_cons, List.length_nil, List.replicate_succ, List.replicate_zero, Nat.reduceAdd, Nat.reduceSub]
  refine zz_lload_n rfl dX1_standsApart_0 ?_
  refine zz_lstore dX1_standsApart_1 (by decide) ?_
  refine zz_lload_n rfl dX1_standsApart_3 ?_
  try dsimp only [zz_s1, zz_s2, zz_kill, zz_ent, zz_fl, List.set_cons_zero, List.set_cons_succ, List.getElem?_cons_zero, List.getElem?_cons_succ, Option.toList_some, Option.toList_none, List.cons_append, List.nil_append, List.append_nil, List.length_cons, List.length_nil, List.replicate_succ, List.replicate_zero, Nat.reduceAdd, Nat.reduceSub]
  refine zz_cS1 dX1_standsApart_4 lX1_73 rfl (Nat.le_of_ble_eq_true rfl) (Nat.le_of_ble_eq_true rfl) ?_
  refine sp_bitCountJ (d + 1) ?_
  try dsimp only [zz_s1, zz_s2, zz_kill, zz_ent, zz_fl, List.set_cons_zero, List.set_cons_succ, List.getElem?_cons_zero, List.getElem?_cons_succ, Option.toList_some, Option.toList_none, List.cons_append, List.nil_append, List.append_nil, List.length_cons, List.length_nil, List.replicate_succ, List.replicate_zero, Nat.reduceAdd, Nat.reduceSub]
  refine zz_istore dX1_standsApart_7 (by decide) ?_
  refine zz_iconst (v := 0) (by decide) dX1_standsApart_9 ?_
  refine zz_istore dX1_standsApart_10 (by decide) ?_
  try dsimp only [zz_s1, zz_s2, zz_kill, zz_ent, zz_fl, List.set_cons_zero, List.set_cons_succ, List.getElem?_cons_zero, List.getElem?_cons_succ, Option.toList_some, Option.toList_none, List.cons_append, List.nil_append, List.append_nil, List.length_cons, List.length_nil, List.replicate_succ, List.replicate_zero, Nat.reduceAdd, Nat.reduceSub]
  have hn64 := ct64 group
  generalize hn : fb_ct (bl group) 64 = n at *
  have loop : ∀ (q i : Nat) (left : Int64), i + q = n → fb_ct (bl left) 64 = q → (∀ w, bl left w = true → bl group w = true) → (∀ r : Int32, bo r (∀ u, bl left u = true → J 9 u &&& rest = group) → Q (some (.int r)) M I J) → zz_G mX1_standsApart (d + 2) 0 12 [some (.ref 8), some (.long group), none, some (.long rest), none, some (.long left), none, some (.int (nI n)), some (.int (nI i))] [] M I J Q := by
    intro q
    induction q with
    | zero =>
      intro i left hi hc g1 hk
      have e : i = n := by omega
      subst e
      refine zz_iload rfl dX1_standsApart_12 ?_
      refine zz_iload rfl dX1_standsApart_14 ?_
      try dsimp only [zz_s1, zz_s2, zz_kill, zz_ent, zz_fl, List.set_cons_zero, List.set_cons_succ, List.getElem?_cons_zero, List.getElem?_cons_succ, Option.toList_some, Option.toList_none, List.cons_append, List.nil_append, List.append_nil, List.length_cons, List.length_nil, List.replicate_succ, List.replicate_zero, Nat.reduceAdd, Nat.reduceSub]
      refine zz_icmp_ge (tgt := 53) dX1_standsApart_16 (by decide) (fun h => ?_) (fun h => ?_)
      · refine zz_iconst (v := 1) (by decide) dX1_standsApart_53 ?_
        refine zz_ireturn dX1_standsApart_54 rfl (by first | rfl | decide | assumption) ?_
        exact hk 1 (bo.one (fun u hu => by rw [ct0 hc, bl_0] at hu; cases hu))
      · exact absurd (nI_le (Nat.le_refl i) (by omega)) h
    | succ q ih =>
      intro i left hi hc g1 hk
      obtain ⟨u, hu, hl⟩ := ctn hc
      have hug := g1 u hl.1
      have huW : u < W := by rw [eg, Bool.and_eq_true] at hug; exact hr u hug.1
      refine zz_iload rfl dX1_standsApart_12 ?_
      refine zz_iload rfl dX1_standsApart_14 ?_
      try dsimp only [zz_s1, zz_s2, zz_kill, zz_ent, zz_fl, List.set_cons_zero, List.set_cons_succ, List.getElem?_cons_zero, List.getElem?_cons_succ, Option.toList_some, Option.toList_none, List.cons_append, List.nil_append, List.append_nil, List.length_cons, List.length_nil, List.replicate_succ, List.replicate_zero, Nat.reduceAdd, Nat.reduceSub]
      refine zz_icmp_ge (tgt := 53) dX1_standsApart_16 (by decide) (fun h => ?_) (fun h => ?_)
      · exact absurd h (nI_ge (by omega) (by omega))
      · skip
        refine zz_aload_n rfl dX1_standsApart_19 ?_
        refine zz_getr dX1_standsApart_20 fX1_9 (fun _ _ _ _ => rfl) (os_8 hO) (or_8_0 hO) ?_
        refine zz_lload rfl dX1_standsApart_23 ?_
        try dsimp only [zz_s1, zz_s2, zz_kill, zz_ent, zz_fl, List.set_cons_zero, List.set_cons_succ, List.getElem?_cons_zero, List.getElem?_cons_succ, Option.toList_some, Option.toList_none, List.cons_append, List.nil_append, List.append_nil, List.length_cons, List.length_nil, List.replicate_succ, List.replicate_zero, Nat.reduceAdd, Nat.reduceSub]
        refine zz_cSN1 dX1_standsApart_25 lX1_85 rfl (Nat.le_of_ble_eq_true rfl) (Nat.le_of_ble_eq_true rfl) ?_
        refine sp_lowest d hl ?_
        try dsimp only [zz_s1, zz_s2, zz_kill, zz_ent, zz_fl, List.set_cons_zero, List.set_cons_succ, List.getElem?_cons_zero, List.getElem?_cons_succ, Option.toList_some, Option.toList_none, List.cons_append, List.nil_append, List.append_nil, List.length_cons, List.length_nil, List.replicate_succ, List.replicate_zero, Nat.reduceAdd, Nat.reduceSub]
        refine zz_lald dX1_standsApart_28 (os_9 hO) (vp_in_nI hu (by decide)) ?_
        refine zz_lload_n rfl dX1_standsApart_29 ?_
        refine zz_land dX1_standsApart_30 ?_
        refine zz_lload_n rfl dX1_standsApart_31 ?_
        refine zz_lcmp dX1_standsApart_32 ?_
        try dsimp only [zz_s1, zz_s2, zz_kill, zz_ent, zz_fl, List.set_cons_zero, List.set_cons_succ, List.getElem?_cons_zero, List.getElem?_cons_succ, Option.toList_some, Option.toList_none, List.cons_append, List.nil_append, List.append_nil, List.length_cons, List.length_nil, List.replicate_succ, List.replicate_zero, Nat.reduceAdd, Nat.reduceSub]
        rw [nI_clamp (show u < 2 ^ 31 by omega)]
        refine zz_if_eq (tgt := 38) dX1_standsApart_33 (by decide) (fun h2 => ?_) (fun h2 => ?_)
        · refine zz_lload rfl dX1_standsApart_38 ?_
          refine zz_lload rfl dX1_standsApart_40 ?_
          refine zz_lconst (v := 1) (by decide) dX1_standsApart_42 ?_
          refine zz_lsub dX1_standsApart_43 ?_
          refine zz_land dX1_standsApart_44 ?_
          refine zz_lstore dX1_standsApart_45 (by decide) ?_
          refine zz_iinc dX1_standsApart_47 rfl (congrArg (HAdd.hAdd _) (show Int32.ofInt 1 = 1 by decide)) (by decide) ?_
          refine zz_goto (tgt := 12) dX1_standsApart_50 (by decide) ?_
          try dsimp only [zz_s1, zz_s2, zz_kill, zz_ent, zz_fl, List.set_cons_zero, List.set_cons_succ, List.getElem?_cons_zero, List.getElem?_cons_succ, Option.toList_some, Option.toList_none, List.cons_append, List.nil_append, List.append_nil, List.length_cons, List.length_nil, List.replicate_succ, List.replicate_zero, Nat.reduceAdd, Nat.reduceSub]
          rw [nI_1]
          have hc2 := ct_rm hu hl.1
          rw [← bd hl] at hc2
          refine ih (i + 1) _ (by omega) (by omega) (fun w hw => ?_) (fun r hr2 => hk r (hr2.iff ⟨fun z t ht => ?_, fun z t ht => ?_⟩))
          · rw [bd hl, rm_t] at hw; exact g1 w hw.1
          · by_cases e : t = u
            · rw [e]; exact cmp_eq.mp h2
            · exact z t (by rw [bd hl, rm_t]; exact ⟨ht, e⟩)
          · rw [bd hl, rm_t] at ht; exact z t ht.1
        · skip
          refine zz_iconst (v := 0) (by decide) dX1_standsApart_36 ?_
          refine zz_ireturn dX1_standsApart_37 rfl (by first | rfl | decide | assumption) ?_
          exact hk 0 (bo.zero fun z => h2 (cmp_eq.mpr (z u hl.1)))
  refine loop n 0 group (by omega) hn (fun _ z => z) (fun r hr2 => hQ r (hr2.iff ⟨fun z u au hu w aw => ?_, fun z u hu => ?_⟩))
  · have e1 := z u (by rw [eg, au, hu]; rfl)
    have e2 := eg w
    rw [← e1, Int64.and_comm, nba hN hr (hr u au), aw] at e2
    simpa using e2
  · rw [eg, Bool.and_eq_true] at hu
    refine bl_ext (fun w _ => ?_)
    rw [Int64.and_comm, nba hN hr (hr u hu.1), eg]
    cases aw : bl rest w with
    | false => rfl
    | true => rw [z u hu.1 hu.2 w aw]
def TS (M : zz_M) (W : Nat) (N : Nat → Nat → Bool) (c : Nat) : Prop := ∀ (d : Nat) (I : zz_I) (J : zz_J) (Q : zz_Q) (free : Int64) (dep : Nat), I 8 1 = nI W → NB J W N → sb free W → fb_ct (bl free) 64 ≤ c → dep + fb_ct (bl free) 64 ≤ 64 → Q (some (.long (lN (tv N (bl free))))) M I J → zz_D mX1_tally (d + c + 3) [.ref 8, .long free, .int (nI dep)] M I J Q
theorem TS_body (hO : OK M) (hW : W ≤ 24) (sy : ∀ x y, N x y = N y x) (rf : ∀ x, N x x = true) (c : Nat) (rec : ∀ c', c = c' + 1 → TS M W N c') : TS M W N c := by
  intro d I J Q free dep h1 hN hf hc hdep hQ
  have hcx : ∀ A : Nat → Bool, (∀ w, A w = true → bl free w = true) → cx N A ≤ 2 ^ 24 := fun A hA => cx_le (fun w hw => by have := hf w (hA w hw); omega)
  have hal : ∀ x : Int64, al N 64 (bl x) ≤ 64 := fun x => Nat.le_trans al_ct (ct64 x)
  refine zz_D_of rfl (Nat.le_of_ble_eq_true rfl) ?_
  try dsimp only [zz_s1, zz_s2, zz_kill, zz_ent, zz_fl, List.set_cons_zero, List.set_cons_succ, List.getElem?_cons_zero, List.getElem?_cons_succ, Option.toList_some, Option.toList_none, List.cons_append, List.nil_append, List.append_nil, List.length_cons, List.length_nil, List.replicate_succ, List.replicate_zero, Nat.reduceAdd, Nat.reduceSub]
  refine zz_iload_n rfl dX1_tally_0 ?_
  refine zz_bipush (v := 64) (by decide) dX1_tally_1 ?_
  try dsimp only [zz_s1, zz_s2, zz_kill, zz_ent, zz_fl, List.set_cons_zero, List.set_cons_succ, List.getElem?_cons_zero, List.getElem?_cons_succ, Option.toList_some, Option.toList_none, List.cons_append, List.nil_append, List.append_nil, List.length_cons, List.length_nil, List.replicate_succ, List.replicate_zero, Nat.reduceAdd, Nat.reduceSub]
  refine zz_icmp_le (tgt := 8) dX1_tally_3 (by decide) (fun h0 => ?_) (fun h0 => ?_)
  rotate_left
  · exact absurd (nI_le (a := dep) (b := 64) (by omega) (by decide)) h0
  refine zz_lconst (v := 0) (by decide) dX1_tally_8 ?_
  refine zz_lstore dX1_tally_9 (by decide) ?_
  refine zz_lconst (v := 1) (by decide) dX1_tally_11 ?_
  refine zz_lstore dX1_tally_12 (by decide) ?_
  refine zz_lload_n rfl dX1_tally_14 ?_
  refine zz_lstore dX1_tally_15 (by decide) ?_
  refine zz_iconst (v := (-1)) (by decide) dX1_tally_17 ?_
  refine zz_istore dX1_tally_18 (by decide) ?_
  refine zz_iconst (v := 0) (by decide) dX1_tally_20 ?_
  refine zz_istore dX1_tally_21 (by decide) ?_
  refine zz_iconst (v := 0) (by decide) dX1_tally_23 ?_
  refine zz_istore dX1_tally_24 (by decide) ?_
  try dsimp only [zz_s1, zz_s2, zz_kill, zz_ent, zz_fl, List.set_cons_zero, List.set_cons_succ, List.getElem?_cons_zero, List.getElem?_cons_succ, Option.toList_some, Option.toList_none, List.cons_append, List.nil_append, List.append_nil, List.length_cons, List.length_nil, List.replicate_succ, List.replicate_zero, Nat.reduceAdd, Nat.reduceSub]
  have fin : ∀ (a t : Nat) (rest : Int64) (bu hi : Int32) (z12 z13 z15 : Option Value), (∀ w, bl rest w = true → bl free w = true) → al N 64 (bl free) = a + al N 64 (bl rest) → cx N (bl free) = t * cx N (bl rest) → ((bu = -1 ∧ rest = 0) ∨ (∃ b, bu = nI b ∧ bl rest b = true)) → zz_G mX1_tally (d + c + 3) 0 129 [some (.ref 8), some (.long free), none, some (.int (nI dep)), some (.long (lN a)), none, some (.long (lN t)), none, some (.long rest), none, some (.int bu), some (.int hi), z12, z13, none, z15, none, none] [] M I J Q := by
    intro a t rest bu hi z12 z13 z15 g1 g2 g3 g4
    have hA := hal free
    rcases g4 with ⟨z, z0⟩ | ⟨b, z, zb⟩
    · rw [z]
      refine zz_iload rfl dX1_tally_129 ?_
      try dsimp only [zz_s1, zz_s2, zz_kill, zz_ent, zz_fl, List.set_cons_zero, List.set_cons_succ, List.getElem?_cons_zero, List.getElem?_cons_succ, Option.toList_some, Option.toList_none, List.cons_append, List.nil_append, List.append_nil, List.length_cons, List.length_nil, List.replicate_succ, List.replicate_zero, Nat.reduceAdd, Nat.reduceSub]
      refine zz_if_ge (tgt := 143) dX1_tally_131 (by decide) (fun h => ?_) (fun h => ?_)
      · exact absurd h (by decide)
      · skip
        rw [al_0 (A := bl rest) (fun w _ => by rw [z0]; exact bl_0 w)] at g2
        rw [cx_0 (A := bl rest) (fun w _ => by rw [z0]; exact bl_0 w), Nat.mul_one] at g3
        have ht := hcx (bl free) (fun _ z => z)
        refine zz_lload rfl dX1_tally_134 ?_
        refine zz_bipush (v := 32) (by decide) dX1_tally_136 ?_
        refine zz_lshl dX1_tally_138 ?_
        refine zz_lload rfl dX1_tally_139 ?_
        refine zz_lor dX1_tally_141 ?_
        refine zz_lreturn dX1_tally_142 rfl ?_
        rw [show (32 : Int32) = nI 32 from rfl, lsh_nI (by decide), wb_or (by omega) (by omega), Nat.mul_comm a, ← Nat.two_pow_add_eq_or_of_lt (by omega)]
        unfold tv at hQ
        rw [g2, g3, Nat.add_zero, Nat.mul_comm] at hQ
        exact hQ
    · rw [z]
      have hbf := g1 b zb
      have hbW := hf b hbf
      have hb64 : b < 64 := by omega
      have hrs : sb rest W := fun w hw => hf w (g1 w hw)
      have hcr : fb_ct (bl rest) 64 ≤ fb_ct (bl free) 64 := fb_ct_sub (fun k _ z => g1 k z)
      have hcp : 0 < fb_ct (bl rest) 64 := fb_ct_pos.mpr ⟨b, hb64, zb⟩
      have hcb := ct_rm hb64 zb
      have hbr := al_br sy rf hb64 zb
      have hxb := cx_br sy rf hb64 zb
      have em : bl (rest &&& (J 9 b ^^^ (-1))) = mi (bl rest) (N b) := by rw [bm, nbm hN hrs hbW]
      have cm1 : fb_ct (mi (bl rest) (N b)) 64 < fb_ct (bl rest) 64 := ct_lt hb64 (fun w hw => (mi_t.mp hw).1) (by unfold mi; rw [rf]; simp) zb
      obtain ⟨c', rfl⟩ : ∃ c', c = c' + 1 := ⟨c - 1, by omega⟩
      refine zz_iload rfl dX1_tally_129 ?_
      try dsimp only [zz_s1, zz_s2, zz_kill, zz_ent, zz_fl, List.set_cons_zero, List.set_cons_succ, List.getElem?_cons_zero, List.getElem?_cons_succ, Option.toList_some, Option.toList_none, List.cons_append, List.nil_append, List.append_nil, List.length_cons, List.length_nil, List.replicate_succ, List.replicate_zero, Nat.reduceAdd, Nat.reduceSub]
      refine zz_if_ge (tgt := 143) dX1_tally_131 (by decide) (fun h => ?_) (fun h => ?_)
      rotate_left
      · exact absurd (Int32.not_lt.mp (nI_nn (show b < 2 ^ 31 by omega))) h
      refine zz_aload_n rfl dX1_tally_143 ?_
      refine zz_lload rfl dX1_tally_144 ?_
      refine zz_aload_n rfl dX1_tally_146 ?_
      refine zz_getr dX1_tally_147 fX1_9 (fun _ _ _ _ => rfl) (os_8 hO) (or_8_0 hO) ?_
      refine zz_iload rfl dX1_tally_150 ?_
      refine zz_lald dX1_tally_152 (os_9 hO) (vp_in_nI hb64 (by decide)) ?_
      refine zz_ldc2 tX1_41 dX1_tally_153 ?_
      refine zz_lxor dX1_tally_156 ?_
      refine zz_land dX1_tally_157 ?_
      refine zz_iload_n rfl dX1_tally_158 ?_
      refine zz_iconst (v := 1) (by decide) dX1_tally_159 ?_
      refine zz_iadd dX1_tally_160 ?_
      try dsimp only [zz_s1, zz_s2, zz_kill, zz_ent, zz_fl, List.set_cons_zero, List.set_cons_succ, List.getElem?_cons_zero, List.getElem?_cons_succ, Option.toList_some, Option.toList_none, List.cons_append, List.nil_append, List.append_nil, List.length_cons, List.length_nil, List.replicate_succ, List.replicate_zero, Nat.reduceAdd, Nat.reduceSub]
      rw [nI_clamp (show b < 2 ^ 31 by omega), show nI dep + 1 = nI (dep + 1) from nI_1 dep]
      refine zz_cV2 dX1_tally_161 lX1_92 rfl (os_8 hO) rfl rfl (Nat.le_of_ble_eq_true rfl) (Nat.le_of_ble_eq_true rfl) ?_
      refine rec c' rfl d I J _ _ (dep + 1) h1 hN (fun w hw => hrs w (by rw [em, mi_t] at hw; exact hw.1)) (by rw [em]; omega) (by rw [em]; omega) ?_
      try dsimp only [zz_s1, zz_s2, zz_kill, zz_ent, zz_fl, List.set_cons_zero, List.set_cons_succ, List.getElem?_cons_zero, List.getElem?_cons_succ, Option.toList_some, Option.toList_none, List.cons_append, List.nil_append, List.append_nil, List.length_cons, List.length_nil, List.replicate_succ, List.replicate_zero, Nat.reduceAdd, Nat.reduceSub]
      refine zz_ldc2 tX1_99 dX1_tally_164 ?_
      refine zz_ladd dX1_tally_167 ?_
      refine zz_lstore dX1_tally_168 (by decide) ?_
      refine zz_aload_n rfl dX1_tally_170 ?_
      refine zz_lload rfl dX1_tally_171 ?_
      refine zz_lconst (v := 1) (by decide) dX1_tally_173 ?_
      refine zz_iload rfl dX1_tally_174 ?_
      refine zz_lshl dX1_tally_176 ?_
      refine zz_ldc2 tX1_41 dX1_tally_177 ?_
      refine zz_lxor dX1_tally_180 ?_
      refine zz_land dX1_tally_181 ?_
      refine zz_iload_n rfl dX1_tally_182 ?_
      refine zz_iconst (v := 1) (by decide) dX1_tally_183 ?_
      refine zz_iadd dX1_tally_184 ?_
      try dsimp only [zz_s1, zz_s2, zz_kill, zz_ent, zz_fl, List.set_cons_zero, List.set_cons_succ, List.getElem?_cons_zero, List.getElem?_cons_succ, Option.toList_some, Option.toList_none, List.cons_append, List.nil_append, List.append_nil, List.length_cons, List.length_nil, List.replicate_succ, List.replicate_zero, Nat.reduceAdd, Nat.reduceSub]
      rw [show nI dep + 1 = nI (dep + 1) from nI_1 dep]
      refine zz_cV2 dX1_tally_185 lX1_92 rfl (os_8 hO) rfl rfl (Nat.le_of_ble_eq_true rfl) (Nat.le_of_ble_eq_true rfl) ?_
      refine rec c' rfl d I J _ _ (dep + 1) h1 hN (fun w hw => hrs w (by rw [br1 _ hb64, rm_t] at hw; exact hw.1)) (by rw [br1 _ hb64]; omega) (by rw [br1 _ hb64]; omega) ?_
      try dsimp only [zz_s1, zz_s2, zz_kill, zz_ent, zz_fl, List.set_cons_zero, List.set_cons_succ, List.getElem?_cons_zero, List.getElem?_cons_succ, Option.toList_some, Option.toList_none, List.cons_append, List.nil_append, List.append_nil, List.length_cons, List.length_nil, List.replicate_succ, List.replicate_zero, Nat.reduceAdd, Nat.reduceSub]
      have ha1 := hal (rest &&& (J 9 b ^^^ (-1)))
      have ha2 := hal (rest &&& (jv_lshl 1 (nI b) ^^^ (-1)))
      rw [em] at ha1
      rw [br1 _ hb64] at ha2
      have hc1 := hcx (mi (bl rest) (N b)) (fun w hw => g1 w (mi_t.mp hw).1)
      have hc2 := hcx (rm (bl rest) b) (fun w hw => g1 w (rm_t.mp hw).1)
      have hc3 := hcx (bl rest) g1
      rw [em, br1 _ hb64]
      unfold tv
      unfold tv at hQ
      rw [g2, g3] at hQ
      have hfx := hcx (bl free) (fun _ z => z)
      rw [g3] at hfx
      generalize cx N (mi (bl rest) (N b)) = c1 at *
      generalize cx N (rm (bl rest) b) = c2 at *
      generalize cx N (bl rest) = c3 at *
      generalize al N 64 (mi (bl rest) (N b)) = a1 at *
      generalize al N 64 (rm (bl rest) b) = a2 at *
      generalize al N 64 (bl rest) = a3 at *
      rw [show (4294967296 : Int64) = lN (2 ^ 32) from rfl, lN_add, show a1 * 2 ^ 32 + c1 + 2 ^ 32 = (a1 + 1) * 2 ^ 32 + c1 by omega]
      refine zz_lstore dX1_tally_188 (by decide) ?_
      refine zz_lload rfl dX1_tally_190 ?_
      refine zz_lload rfl dX1_tally_192 ?_
      try dsimp only [zz_s1, zz_s2, zz_kill, zz_ent, zz_fl, List.set_cons_zero, List.set_cons_succ, List.getElem?_cons_zero, List.getElem?_cons_succ, Option.toList_some, Option.toList_none, List.cons_append, List.nil_append, List.append_nil, List.length_cons, List.length_nil, List.replicate_succ, List.replicate_zero, Nat.reduceAdd, Nat.reduceSub]
      refine zz_cS2 dX1_tally_194 lX1_101 rfl (Nat.le_of_ble_eq_true rfl) (Nat.le_of_ble_eq_true rfl) ?_
      refine sp_joinTallies (d + c' + 2) (by omega) (by omega) (by omega) (by omega) ?_
      try dsimp only [zz_s1, zz_s2, zz_kill, zz_ent, zz_fl, List.set_cons_zero, List.set_cons_succ, List.getElem?_cons_zero, List.getElem?_cons_succ, Option.toList_some, Option.toList_none, List.cons_append, List.nil_append, List.append_nil, List.length_cons, List.length_nil, List.replicate_succ, List.replicate_zero, Nat.reduceAdd, Nat.reduceSub]
      refine zz_lstore dX1_tally_197 (by decide) ?_
      refine zz_lload rfl dX1_tally_199 ?_
      refine zz_bipush (v := 32) (by decide) dX1_tally_201 ?_
      refine zz_lshl dX1_tally_203 ?_
      refine zz_lload rfl dX1_tally_204 ?_
      refine zz_bipush (v := 32) (by decide) dX1_tally_206 ?_
      refine zz_lushr dX1_tally_208 ?_
      refine zz_bipush (v := 32) (by decide) dX1_tally_209 ?_
      refine zz_lshl dX1_tally_211 ?_
      refine zz_ladd dX1_tally_212 ?_
      refine zz_lload rfl dX1_tally_213 ?_
      refine zz_ldc2 tX1_105 dX1_tally_215 ?_
      refine zz_land dX1_tally_218 ?_
      refine zz_lload rfl dX1_tally_219 ?_
      refine zz_lmul dX1_tally_221 ?_
      refine zz_ladd dX1_tally_222 ?_
      refine zz_lreturn dX1_tally_223 rfl ?_
      rw [show (if a1 + 1 = a2 then (a1 + 1) * 2 ^ 32 + (c1 + c2) else if a1 + 1 < a2 then a2 * 2 ^ 32 + c2 else (a1 + 1) * 2 ^ 32 + c1) = a3 * 2 ^ 32 + c3 from by
        by_cases q1 : a1 + 1 = a2
        · rw [if_pos q1, hxb.1 (by omega)]
          have : a3 = a1 + 1 := by omega
          rw [this]; omega
        · rw [if_neg q1]
          by_cases q2 : a1 + 1 < a2
          · rw [if_pos q2, hxb.2.2 (by omega)]
            have : a3 = a2 := by omega
            rw [this]
          · rw [if_neg q2, hxb.2.1 (by omega)]
            have : a3 = a1 + 1 := by omega
            rw [this]]
      rw [sh_hi (by omega) (by omega), an_lo (by omega) (by omega), show (32 : Int32) = nI 32 from rfl, lsh_nI (by decide), lsh_nI (by decide), lN_add, lN_mul, lN_add]
      rw [show a * 2 ^ 32 + a3 * 2 ^ 32 + c3 * t = (a + a3) * 2 ^ 32 + t * c3 by rw [Nat.add_mul, Nat.mul_comm c3 t]]
      exact hQ
  have loop : ∀ (q v a t : Nat) (rest : Int64) (bu hi : Int32) (z13 z15 : Option Value), v + q = W → (∀ w, bl rest w = true → bl free w = true) → al N 64 (bl free) = a + al N 64 (bl rest) → cx N (bl free) = t * cx N (bl rest) → ((bu = -1 ∧ hi = 0 ∧ ∀ w, w < v → bl rest w = false) ∨ (∃ b, bu = nI b ∧ bl rest b = true ∧ ¬ apt N (bl rest) b)) → zz_G mX1_tally (d + c + 3) 0 26 [some (.ref 8), some (.long free), none, some (.int (nI dep)), some (.long (lN a)), none, some (.long (lN t)), none, some (.long rest), none, some (.int bu), some (.int hi), some (.int (nI v)), z13, none, z15, none, none] [] M I J Q := by
    intro q
    induction q with
    | zero =>
      intro v a t rest bu hi z13 z15 hv g1 g2 g3 g4
      have e : v = W := by omega
      subst e
      refine zz_iload rfl dX1_tally_26 ?_
      refine zz_aload_n rfl dX1_tally_28 ?_
      refine zz_geti dX1_tally_29 fX1_15 rfl (os_8 hO) ?_
      try dsimp only [zz_s1, zz_s2, zz_kill, zz_ent, zz_fl, List.set_cons_zero, List.set_cons_succ, List.getElem?_cons_zero, List.getElem?_cons_succ, Option.toList_some, Option.toList_none, List.cons_append, List.nil_append, List.append_nil, List.length_cons, List.length_nil, List.replicate_succ, List.replicate_zero, Nat.reduceAdd, Nat.reduceSub]
      rw [h1]
      refine zz_icmp_ge (tgt := 129) dX1_tally_32 (by decide) (fun h => ?_) (fun h => ?_)
      · refine fin a t rest bu hi _ _ _ g1 g2 g3 (g4.imp (fun z => ⟨z.1, bl_zero.mpr (fun w => ?_)⟩) (fun ⟨b, z1, z2, _⟩ => ⟨b, z1, z2⟩))
        by_cases hw : w < v
        · exact z.2.2 w hw
        · cases cw : bl rest w with
          | false => rfl
          | true => exact absurd (hf w (g1 w cw)) hw
      · exact absurd (nI_le (Nat.le_refl v) (by omega)) h
    | succ q ih =>
      intro v a t rest bu hi z13 z15 hv g1 g2 g3 g4
      have hvW : v < W := by omega
      have hv64 : v < 64 := by omega
      have hrs : sb rest W := fun w hw => hf w (g1 w hw)
      have eo : (jv_lushr rest (nI v) &&& 1 = 0) ↔ bl rest v = false := by rw [low1L, bl_ushr0 rest hv64]
      have hm64 := ct64 (J 9 v &&& rest)
      have eg : ∀ w, bl (J 9 v &&& rest) w = (bl rest w && N v w) := fun w => by rw [Int64.and_comm]; exact nba hN hrs hvW w
      refine zz_iload rfl dX1_tally_26 ?_
      refine zz_aload_n rfl dX1_tally_28 ?_
      refine zz_geti dX1_tally_29 fX1_15 rfl (os_8 hO) ?_
      try dsimp only [zz_s1, zz_s2, zz_kill, zz_ent, zz_fl, List.set_cons_zero, List.set_cons_succ, List.getElem?_cons_zero, List.getElem?_cons_succ, Option.toList_some, Option.toList_none, List.cons_append, List.nil_append, List.append_nil, List.length_cons, List.length_nil, List.replicate_succ, List.replicate_zero, Nat.reduceAdd, Nat.reduceSub]
      rw [h1]
      refine zz_icmp_ge (tgt := 129) dX1_tally_32 (by decide) (fun h => ?_) (fun h => ?_)
      · exact absurd h (nI_ge (by omega) (by omega))
      refine zz_aload_n rfl dX1_tally_35 ?_
      refine zz_getr dX1_tally_36 fX1_9 (fun _ _ _ _ => rfl) (os_8 hO) (or_8_0 hO) ?_
      refine zz_iload rfl dX1_tally_39 ?_
      refine zz_lald dX1_tally_41 (os_9 hO) (vp_in_nI hv64 (by decide)) ?_
      refine zz_lload rfl dX1_tally_42 ?_
      refine zz_land dX1_tally_44 ?_
      refine zz_lstore dX1_tally_45 (by decide) ?_
      refine zz_lload rfl dX1_tally_47 ?_
      try dsimp only [zz_s1, zz_s2, zz_kill, zz_ent, zz_fl, List.set_cons_zero, List.set_cons_succ, List.getElem?_cons_zero, List.getElem?_cons_succ, Option.toList_some, Option.toList_none, List.cons_append, List.nil_append, List.append_nil, List.length_cons, List.length_nil, List.replicate_succ, List.replicate_zero, Nat.reduceAdd, Nat.reduceSub]
      rw [nI_clamp (show v < 2 ^ 31 by omega)]
      refine zz_cS1 dX1_tally_49 lX1_73 rfl (Nat.le_of_ble_eq_true rfl) (Nat.le_of_ble_eq_true rfl) ?_
      refine sp_bitCountJ (d + c + 2) ?_
      try dsimp only [zz_s1, zz_s2, zz_kill, zz_ent, zz_fl, List.set_cons_zero, List.set_cons_succ, List.getElem?_cons_zero, List.getElem?_cons_succ, Option.toList_some, Option.toList_none, List.cons_append, List.nil_append, List.append_nil, List.length_cons, List.length_nil, List.replicate_succ, List.replicate_zero, Nat.reduceAdd, Nat.reduceSub]
      refine zz_istore dX1_tally_52 (by decide) ?_
      refine zz_lload rfl dX1_tally_54 ?_
      refine zz_iload rfl dX1_tally_56 ?_
      refine zz_lushr dX1_tally_58 ?_
      refine zz_lconst (v := 1) (by decide) dX1_tally_59 ?_
      refine zz_land dX1_tally_60 ?_
      refine zz_lconst (v := 0) (by decide) dX1_tally_61 ?_
      refine zz_lcmp dX1_tally_62 ?_
      try dsimp only [zz_s1, zz_s2, zz_kill, zz_ent, zz_fl, List.set_cons_zero, List.set_cons_succ, List.getElem?_cons_zero, List.getElem?_cons_succ, Option.toList_some, Option.toList_none, List.cons_append, List.nil_append, List.append_nil, List.length_cons, List.length_nil, List.replicate_succ, List.replicate_zero, Nat.reduceAdd, Nat.reduceSub]
      refine zz_if_ne (tgt := 69) dX1_tally_63 (by decide) (fun h2 => ?_) (fun h2 => ?_)
      rotate_left
      · skip
        have ho : bl rest v = false := eo.mp (cmp_eq.mp h2)
        refine zz_goto (tgt := 123) dX1_tally_66 (by decide) ?_
        refine zz_iinc dX1_tally_123 rfl (congrArg (HAdd.hAdd _) (show Int32.ofInt 1 = 1 by decide)) (by decide) ?_
        refine zz_goto (tgt := 26) dX1_tally_126 (by decide) ?_
        try dsimp only [zz_s1, zz_s2, zz_kill, zz_ent, zz_fl, List.set_cons_zero, List.set_cons_succ, List.getElem?_cons_zero, List.getElem?_cons_succ, Option.toList_some, Option.toList_none, List.cons_append, List.nil_append, List.append_nil, List.length_cons, List.length_nil, List.replicate_succ, List.replicate_zero, Nat.reduceAdd, Nat.reduceSub]
        rw [nI_1]
        refine ih (v + 1) a t rest bu hi _ _ (by omega) g1 g2 g3 (g4.imp (fun z => ⟨z.1, z.2.1, fun w hw => ?_⟩) id)
        by_cases e : w = v
        · rw [e]; exact ho
        · exact z.2.2 w (by omega)
      have ho : bl rest v = true := by
        cases z : bl rest v with
        | true => rfl
        | false => exact absurd (cmp_eq.mpr (eo.mpr z)) h2
      refine zz_aload_n rfl dX1_tally_69 ?_
      refine zz_lload rfl dX1_tally_70 ?_
      refine zz_lload rfl dX1_tally_72 ?_
      try dsimp only [zz_s1, zz_s2, zz_kill, zz_ent, zz_fl, List.set_cons_zero, List.set_cons_succ, List.getElem?_cons_zero, List.getElem?_cons_succ, Option.toList_some, Option.toList_none, List.cons_append, List.nil_append, List.append_nil, List.length_cons, List.length_nil, List.replicate_succ, List.replicate_zero, Nat.reduceAdd, Nat.reduceSub]
      refine zz_cV2 dX1_tally_74 lX1_96 rfl (os_8 hO) rfl rfl (Nat.le_of_ble_eq_true rfl) (Nat.le_of_ble_eq_true rfl) ?_
      refine sp_standsApart (d + c) hO (by omega) hN hrs hvW (fun r hr => ?_)
      try dsimp only [zz_s1, zz_s2, zz_kill, zz_ent, zz_fl, List.set_cons_zero, List.set_cons_succ, List.getElem?_cons_zero, List.getElem?_cons_succ, Option.toList_some, Option.toList_none, List.cons_append, List.nil_append, List.append_nil, List.length_cons, List.length_nil, List.replicate_succ, List.replicate_zero, Nat.reduceAdd, Nat.reduceSub]
      refine zz_if_eq (tgt := 108) dX1_tally_77 (by decide) (fun h3 => ?_) (fun h3 => ?_)
      · have hna := hr.f h3
        refine zz_iload rfl dX1_tally_108 ?_
        refine zz_iload rfl dX1_tally_110 ?_
        try dsimp only [zz_s1, zz_s2, zz_kill, zz_ent, zz_fl, List.set_cons_zero, List.set_cons_succ, List.getElem?_cons_zero, List.getElem?_cons_succ, Option.toList_some, Option.toList_none, List.cons_append, List.nil_append, List.append_nil, List.length_cons, List.length_nil, List.replicate_succ, List.replicate_zero, Nat.reduceAdd, Nat.reduceSub]
        refine zz_icmp_le (tgt := 123) dX1_tally_112 (by decide) (fun h4 => ?_) (fun h4 => ?_)
        · refine zz_iinc dX1_tally_123 rfl (congrArg (HAdd.hAdd _) (show Int32.ofInt 1 = 1 by decide)) (by decide) ?_
          refine zz_goto (tgt := 26) dX1_tally_126 (by decide) ?_
          try dsimp only [zz_s1, zz_s2, zz_kill, zz_ent, zz_fl, List.set_cons_zero, List.set_cons_succ, List.getElem?_cons_zero, List.getElem?_cons_succ, Option.toList_some, Option.toList_none, List.cons_append, List.nil_append, List.append_nil, List.length_cons, List.length_nil, List.replicate_succ, List.replicate_zero, Nat.reduceAdd, Nat.reduceSub]
          rw [nI_1]
          refine ih (v + 1) a t rest bu hi _ _ (by omega) g1 g2 g3 (Or.inr ?_)
          rcases g4 with z | z
          · exfalso
            rw [z.2.1] at h4
            have : 0 < fb_ct (bl (J 9 v &&& rest)) 64 := fb_ct_pos.mpr ⟨v, hv64, by rw [eg, ho, rf]; rfl⟩
            exact nI_nle this (by omega) h4
          · exact z
        · skip
          refine zz_iload rfl dX1_tally_115 ?_
          refine zz_istore dX1_tally_117 (by decide) ?_
          refine zz_iload rfl dX1_tally_119 ?_
          refine zz_istore dX1_tally_121 (by decide) ?_
          refine zz_iinc dX1_tally_123 rfl (congrArg (HAdd.hAdd _) (show Int32.ofInt 1 = 1 by decide)) (by decide) ?_
          refine zz_goto (tgt := 26) dX1_tally_126 (by decide) ?_
          try dsimp only [zz_s1, zz_s2, zz_kill, zz_ent, zz_fl, List.set_cons_zero, List.set_cons_succ, List.getElem?_cons_zero, List.getElem?_cons_succ, Option.toList_some, Option.toList_none, List.cons_append, List.nil_append, List.append_nil, List.length_cons, List.length_nil, List.replicate_succ, List.replicate_zero, Nat.reduceAdd, Nat.reduceSub]
          rw [nI_1]
          exact ih (v + 1) a t rest (nI v) _ _ _ (by omega) g1 g2 g3 (Or.inr ⟨v, rfl, ho, hna⟩)
      · skip
        have hya := hr.t h3
        have e1 := apt_al sy rf hv64 ho hya
        have e2 := cx_apt sy rf hv64 ho hya
        have eb : bl (rest &&& ((J 9 v &&& rest) ^^^ (-1))) = mi (bl rest) (N v) := by
          rw [bm]
          funext w
          unfold mi
          rw [eg]
          cases bl rest w <;> cases N v w <;> rfl
        have ec : fb_ct (bl (J 9 v &&& rest)) 64 = fb_ct (fun w => bl rest w && N v w) 64 := fb_ct_cong (fun w _ => eg w)
        refine zz_lload rfl dX1_tally_80 ?_
        refine zz_lconst (v := 1) (by decide) dX1_tally_82 ?_
        refine zz_ladd dX1_tally_83 ?_
        refine zz_lstore dX1_tally_84 (by decide) ?_
        refine zz_lload rfl dX1_tally_86 ?_
        refine zz_iload rfl dX1_tally_88 ?_
        refine zz_i2l dX1_tally_90 ?_
        refine zz_lmul dX1_tally_91 ?_
        refine zz_lstore dX1_tally_92 (by decide) ?_
        refine zz_lload rfl dX1_tally_94 ?_
        refine zz_lload rfl dX1_tally_96 ?_
        refine zz_ldc2 tX1_41 dX1_tally_98 ?_
        refine zz_lxor dX1_tally_101 ?_
        refine zz_land dX1_tally_102 ?_
        refine zz_lstore dX1_tally_103 (by decide) ?_
        refine zz_goto (tgt := 123) dX1_tally_105 (by decide) ?_
        refine zz_iinc dX1_tally_123 rfl (congrArg (HAdd.hAdd _) (show Int32.ofInt 1 = 1 by decide)) (by decide) ?_
        refine zz_goto (tgt := 26) dX1_tally_126 (by decide) ?_
        try dsimp only [zz_s1, zz_s2, zz_kill, zz_ent, zz_fl, List.set_cons_zero, List.set_cons_succ, List.getElem?_cons_zero, List.getElem?_cons_succ, Option.toList_some, Option.toList_none, List.cons_append, List.nil_append, List.append_nil, List.length_cons, List.length_nil, List.replicate_succ, List.replicate_zero, Nat.reduceAdd, Nat.reduceSub]
        rw [nI_1, lN_1, nI_l (by omega), lN_mul]
        refine ih (v + 1) (a + 1) _ _ bu hi _ _ (by omega) (fun w hw => ?_) (by rw [eb]; omega) (by rw [eb, g3, e2, ec, Nat.mul_assoc]) ?_
        · rw [eb, mi_t] at hw; exact g1 w hw.1
        · rcases g4 with z | ⟨b, z1, z2, z3⟩
          · refine Or.inl ⟨z.1, z.2.1, fun w hw => ?_⟩
            rw [eb]
            unfold mi
            by_cases e : w = v
            · rw [e, rf]; simp
            · rw [z.2.2 w (by omega)]; rfl
          · have := apt_not sy ho hya z2 z3
            refine Or.inr ⟨b, z1, ?_, ?_⟩
            · rw [eb, mi_t]; exact ⟨z2, this.1⟩
            · rw [eb]; exact this.2
  exact loop W 0 0 1 free (-1) 0 _ _ (by omega) (fun _ z => z) (by omega) (by rw [Nat.one_mul]) (Or.inl ⟨rfl, rfl, fun w hw => by omega⟩)
theorem sp_tally (hO : OK M) (hW : W ≤ 24) (sy : ∀ x y, N x y = N y x) (rf : ∀ x, N x x = true) : ∀ c, TS M W N c
  | 0 => TS_body hO hW sy rf 0 (fun c' h => by omega)
  | c + 1 => TS_body hO hW sy rf (c + 1) (fun c' h => by cases h; exact sp_tally hO hW sy rf c)
theorem sp_countLargest {I : zz_I} {J : zz_J} {Q : zz_Q} (d : Nat) (hO : OK M) (hW : W ≤ 24) (sy : ∀ x y, N x y = N y x) (rf : ∀ x, N x x = true) (hN : NB J W N) (h1 : I 8 1 = nI W) (hQ : Q (some (.int (nI (cx N (ltW W))))) M I J) : zz_D mX1_countLargest (d + 68) [.ref 8] M I J Q := by
  refine zz_D_of rfl (Nat.le_of_ble_eq_true rfl) ?_
  try dsimp only [zz_s1, zz_s2, zz_kill, zz_ent, zz_fl, List.set_cons_zero, List.set_cons_succ, List.getElem?_cons_zero, List.getElem?_cons_succ, Option.toList_some, Option.toList_none, List.cons_append, List.nil_append, List.append_nil, List.length_cons, List.length_nil, List.replicate_succ, List.replicate_zero, Nat.reduceAdd, Nat.reduceSub]
  refine zz_aload_n rfl dX1_countLargest_0 ?_
  refine zz_aload_n rfl dX1_countLargest_1 ?_
  try dsimp only [zz_s1, zz_s2, zz_kill, zz_ent, zz_fl, List.set_cons_zero, List.set_cons_succ, List.getElem?_cons_zero, List.getElem?_cons_succ, Option.toList_some, Option.toList_none, List.cons_append, List.nil_append, List.append_nil, List.length_cons, List.length_nil, List.replicate_succ, List.replicate_zero, Nat.reduceAdd, Nat.reduceSub]
  refine zz_cV0 dX1_countLargest_2 lX1_37 rfl (os_8 hO) rfl rfl (Nat.le_of_ble_eq_true rfl) (Nat.le_of_ble_eq_true rfl) ?_
  refine sp_allWords (d + 67) hO (by omega) h1 (fun x hx => ?_)
  try dsimp only [zz_s1, zz_s2, zz_kill, zz_ent, zz_fl, List.set_cons_zero, List.set_cons_succ, List.getElem?_cons_zero, List.getElem?_cons_succ, Option.toList_some, Option.toList_none, List.cons_append, List.nil_append, List.append_nil, List.length_cons, List.length_nil, List.replicate_succ, List.replicate_zero, Nat.reduceAdd, Nat.reduceSub]
  refine zz_iconst (v := 0) (by decide) dX1_countLargest_5 ?_
  try dsimp only [zz_s1, zz_s2, zz_kill, zz_ent, zz_fl, List.set_cons_zero, List.set_cons_succ, List.getElem?_cons_zero, List.getElem?_cons_succ, Option.toList_some, Option.toList_none, List.cons_append, List.nil_append, List.append_nil, List.length_cons, List.length_nil, List.replicate_succ, List.replicate_zero, Nat.reduceAdd, Nat.reduceSub]
  refine zz_cV2 dX1_countLargest_6 lX1_92 rfl (os_8 hO) rfl rfl (Nat.le_of_ble_eq_true rfl) (Nat.le_of_ble_eq_true rfl) ?_
  refine sp_tally hO hW sy rf 64 d I J _ x 0 h1 hN (fun w hw => by rw [hx] at hw; simpa [ltW] using hw) (ct64 x) (by have := ct64 x; omega) ?_
  try dsimp only [zz_s1, zz_s2, zz_kill, zz_ent, zz_fl, List.set_cons_zero, List.set_cons_succ, List.getElem?_cons_zero, List.getElem?_cons_succ, Option.toList_some, Option.toList_none, List.cons_append, List.nil_append, List.append_nil, List.length_cons, List.length_nil, List.replicate_succ, List.replicate_zero, Nat.reduceAdd, Nat.reduceSub]
  refine zz_l2i dX1_countLargest_9 ?_
  refine zz_ireturn dX1_countLargest_10 rfl (by first | rfl | decide | assumption) ?_
  rw [lN_i, hx]
  unfold tv
  rw [nI_lo]
  exact hQ
end PTally

