/-! ===== the reference's words: lowest, all, spell, cover ===== -/
theorem bl_ushr (x : Int64) {k : Nat} (hk : k < 64) (i : Nat) : bl (jv_lushr x (nI k)) i = bl x (k + i) := by
  obtain ⟨n, hn, rfl⟩ := wb_of x
  rw [ls_lN hn hk, bl_lN, bl_lN, Nat.testBit_div_two_pow]
  rw [Nat.add_comm i k]
  by_cases h : k + i < 64
  · simp [h, show i < 64 by omega]
  · rw [Nat.testBit_lt_two_pow (Nat.lt_of_lt_of_le hn (Nat.pow_le_pow_right (by decide) (by omega)))]
    simp
/-- the reference's table of near words -/
def NR (J : zz_J) (W : Nat) (N : Nat → Nat → Bool) : Prop := ∀ v, v < W → ∀ w, bl (J 269 v) w = (decide (w < W ∧ w ≠ v) && N v w)
theorem nra {J : zz_J} {W : Nat} {N : Nat → Nat → Bool} (h : NR J W N) {x : Int64} {v : Nat} (hx : sb x W) (hv : v < W) (w : Nat) : bl (x &&& J 269 v) w = (bl x w && (N v w && !decide (w = v))) := by
  rw [bl_and]
  cases c : bl x w with
  | false => rfl
  | true =>
    have := hx w c
    rw [h v hv w]
    by_cases e : w = v <;> simp [e, this, hv]
section PSpell
variable {M : zz_M} {I : zz_I} {J : zz_J} {Q : zz_Q} {W : Nat} {N : Nat → Nat → Bool}
theorem sp_X10_lowest (d : Nat) {x : Int64} {k : Nat} (hx : lowb x k) (hQ : Q (some (.int (nI k))) M I J) : zz_D mX10_lowest d [.long x] M I J Q := by
  have hk : k < 64 := bl_lt hx.1
  refine zz_D_of rfl (Nat.le_of_ble_eq_true rfl) ?_
  try dsimp only [zz_s1, zz_s2, zz_kill, zz_ent, zz_fl, List.set_cons_zero, List.set_cons_succ, List.getElem?_cons_zero, List.getElem?_cons_succ, Option.toList_some, Option.toList_none, List.cons_append, List.nil_append, List.append_nil, List.length_cons, List.length_nil, List.replicate_succ, List.replicate_zero, Nat.reduceAdd, Nat.reduceSub]
  refine zz_lload_n rfl dX10_lowest_0 ?_
  refine zz_lstore_n dX10_lowest_1 (by decide) ?_
  refine zz_iconst (v := 0) (by decide) dX10_lowest_2 ?_
  refine zz_istore dX10_lowest_3 (by decide) ?_
  refine zz_bipush (v := 32) (by decide) dX10_lowest_5 ?_
  refine zz_istore dX10_lowest_7 (by decide) ?_
  try dsimp only [zz_s1, zz_s2, zz_kill, zz_ent, zz_fl, List.set_cons_zero, List.set_cons_succ, List.getElem?_cons_zero, List.getElem?_cons_succ, Option.toList_some, Option.toList_none, List.cons_append, List.nil_append, List.append_nil, List.length_cons, List.length_nil, List.replicate_succ, List.replicate_zero, Nat.reduceAdd, Nat.reduceSub]
  have loop : ∀ (j t : Nat) (s : Int64), j ≤ 6 → t ≤ k → k - t < 2 ^ j → lowb s (k - t) → zz_G mX10_lowest d 0 9 [some (.long x), none, some (.long s), none, some (.int (nI t)), some (.int (nI (2 ^ j / 2)))] [] M I J Q := by
    intro j
    induction j with
    | zero =>
      intro t s hj ht hlt hl
      have e : t = k := by rw [Nat.pow_zero] at hlt; omega
      subst e
      refine zz_iload rfl dX10_lowest_9 ?_
      try dsimp only [zz_s1, zz_s2, zz_kill, zz_ent, zz_fl, List.set_cons_zero, List.set_cons_succ, List.getElem?_cons_zero, List.getElem?_cons_succ, Option.toList_some, Option.toList_none, List.cons_append, List.nil_append, List.append_nil, List.length_cons, List.length_nil, List.replicate_succ, List.replicate_zero, Nat.reduceAdd, Nat.reduceSub]
      refine zz_if_le (tgt := 51) dX10_lowest_11 (by decide) (fun h => ?_) (fun h => ?_)
      · refine zz_iload rfl dX10_lowest_51 ?_
        refine zz_ireturn dX10_lowest_53 rfl (by first | rfl | decide | assumption) ?_
        exact hQ
      · exact absurd (by decide : nI (2 ^ 0 / 2) ≤ 0) h
    | succ j ih =>
      intro t s hj ht hlt hl
      have e2 : 2 ^ (j + 1) / 2 = 2 ^ j := by rw [Nat.pow_succ]; omega
      have hh : 2 ^ j ≤ 2 ^ 5 := Nat.pow_le_pow_right (by decide) (by omega)
      have hp : 0 < 2 ^ j := Nat.two_pow_pos j
      have hps : 2 ^ (j + 1) = 2 ^ j * 2 := Nat.pow_succ 2 j
      have esh : nI (2 ^ j) >>> ((1 : Int32) &&& 31) = nI (2 ^ j / 2) := by
        have : ∀ j, j < 6 → nI (2 ^ j) >>> ((1 : Int32) &&& 31) = nI (2 ^ j / 2) := by decide +kernel
        exact this j (by omega)
      rw [e2]
      have ez : (s &&& (jv_lshl 1 (nI (2 ^ j)) - 1) = 0) ↔ 2 ^ j ≤ k - t := by
        rw [bl_zero]
        constructor
        · intro z
          refine Nat.le_of_not_lt fun q => ?_
          have := z (k - t)
          rw [bl_and, bl_all (by omega), hl.1] at this
          unfold ltW at this
          simp at this
          omega
        · intro z i
          rw [bl_and, bl_all (by omega)]
          unfold ltW
          by_cases q : i < 2 ^ j
          · rw [hl.2 i (by omega)]; rfl
          · simp; intro _; omega
      refine zz_iload rfl dX10_lowest_9 ?_
      try dsimp only [zz_s1, zz_s2, zz_kill, zz_ent, zz_fl, List.set_cons_zero, List.set_cons_succ, List.getElem?_cons_zero, List.getElem?_cons_succ, Option.toList_some, Option.toList_none, List.cons_append, List.nil_append, List.append_nil, List.length_cons, List.length_nil, List.replicate_succ, List.replicate_zero, Nat.reduceAdd, Nat.reduceSub]
      refine zz_if_le (tgt := 51) dX10_lowest_11 (by decide) (fun h => ?_) (fun h => ?_)
      · exact absurd h (nI_nle hp (by omega))
      · skip
        refine zz_lload_n rfl dX10_lowest_14 ?_
        refine zz_lconst (v := 1) (by decide) dX10_lowest_15 ?_
        refine zz_iload rfl dX10_lowest_16 ?_
        refine zz_lshl dX10_lowest_18 ?_
        refine zz_lconst (v := 1) (by decide) dX10_lowest_19 ?_
        refine zz_lsub dX10_lowest_20 ?_
        refine zz_land dX10_lowest_21 ?_
        refine zz_lconst (v := 0) (by decide) dX10_lowest_22 ?_
        refine zz_lcmp dX10_lowest_23 ?_
        try dsimp only [zz_s1, zz_s2, zz_kill, zz_ent, zz_fl, List.set_cons_zero, List.set_cons_succ, List.getElem?_cons_zero, List.getElem?_cons_succ, Option.toList_some, Option.toList_none, List.cons_append, List.nil_append, List.append_nil, List.length_cons, List.length_nil, List.replicate_succ, List.replicate_zero, Nat.reduceAdd, Nat.reduceSub]
        refine zz_if_eq (tgt := 30) dX10_lowest_24 (by decide) (fun h2 => ?_) (fun h2 => ?_)
        · have hz := ez.mp (cmp_eq.mp h2)
          refine zz_lload_n rfl dX10_lowest_30 ?_
          refine zz_iload rfl dX10_lowest_31 ?_
          refine zz_lushr dX10_lowest_33 ?_
          refine zz_lstore_n dX10_lowest_34 (by decide) ?_
          refine zz_iload rfl dX10_lowest_35 ?_
          refine zz_iload rfl dX10_lowest_37 ?_
          refine zz_iadd dX10_lowest_39 ?_
          refine zz_istore dX10_lowest_40 (by decide) ?_
          refine zz_iload rfl dX10_lowest_42 ?_
          refine zz_iconst (v := 1) (by decide) dX10_lowest_44 ?_
          refine zz_ishr dX10_lowest_45 ?_
          refine zz_istore dX10_lowest_46 (by decide) ?_
          refine zz_goto (tgt := 9) dX10_lowest_48 (by decide) ?_
          try dsimp only [zz_s1, zz_s2, zz_kill, zz_ent, zz_fl, List.set_cons_zero, List.set_cons_succ, List.getElem?_cons_zero, List.getElem?_cons_succ, Option.toList_some, Option.toList_none, List.cons_append, List.nil_append, List.append_nil, List.length_cons, List.length_nil, List.replicate_succ, List.replicate_zero, Nat.reduceAdd, Nat.reduceSub]
          rw [esh, nI_add]
          refine ih (t + 2 ^ j) _ (by omega) (by omega) (by omega) ⟨?_, fun i hi => ?_⟩
          · rw [bl_ushr s (by omega), show 2 ^ j + (k - (t + 2 ^ j)) = k - t by omega]; exact hl.1
          · rw [bl_ushr s (by omega)]; exact hl.2 _ (by omega)
        · skip
          have hz : ¬ 2 ^ j ≤ k - t := fun z => h2 (cmp_eq.mpr (ez.mpr z))
          refine zz_goto (tgt := 42) dX10_lowest_27 (by decide) ?_
          refine zz_iload rfl dX10_lowest_42 ?_
          refine zz_iconst (v := 1) (by decide) dX10_lowest_44 ?_
          refine zz_ishr dX10_lowest_45 ?_
          refine zz_istore dX10_lowest_46 (by decide) ?_
          refine zz_goto (tgt := 9) dX10_lowest_48 (by decide) ?_
          try dsimp only [zz_s1, zz_s2, zz_kill, zz_ent, zz_fl, List.set_cons_zero, List.set_cons_succ, List.getElem?_cons_zero, List.getElem?_cons_succ, Option.toList_some, Option.toList_none, List.cons_append, List.nil_append, List.append_nil, List.length_cons, List.length_nil, List.replicate_succ, List.replicate_zero, Nat.reduceAdd, Nat.reduceSub]
          rw [esh]
          exact ih t s (by omega) ht (by omega) hl
  exact loop 6 0 x (by decide) (by omega) (by omega) hx
theorem sp_all (d : Nat) (hO : OK M) (hW : W ≤ 64) (h1 : I 259 13 = nI W) (hQ : ∀ x : Int64, bl x = ltW W → Q (some (.long x)) M I J) : zz_D mX10_all d [.ref 259] M I J Q := by
  refine zz_D_of rfl (Nat.le_of_ble_eq_true rfl) ?_
  try dsimp only [zz_s1, zz_s2, zz_kill, zz_ent, zz_fl, List.set_cons_zero, List.set_cons_succ, List.getElem?_cons_zero, List.getElem?_cons_succ, Option.toList_some, Option.toList_none, List.cons_append, List.nil_append, List.append_nil, List.length_cons, List.length_nil, List.replicate_succ, List.replicate_zero, Nat.reduceAdd, Nat.reduceSub]
  refine zz_aload_n rfl dX10_all_0 ?_
  refine zz_geti dX10_all_1 fX10_152 rfl (os_259 hO) ?_
  refine zz_bipush (v := 64) (by decide) dX10_all_4 ?_
  try dsimp only [zz_s1, zz_s2, zz_kill, zz_ent, zz_fl, List.set_cons_zero, List.set_cons_succ, List.getElem?_cons_zero, List.getElem?_cons_succ, Option.toList_some, Option.toList_none, List.cons_append, List.nil_append, List.append_nil, List.length_cons, List.length_nil, List.replicate_succ, List.replicate_zero, Nat.reduceAdd, Nat.reduceSub]
  rw [h1]
  refine zz_icmp_ne (tgt := 15) dX10_all_6 (by decide) (fun h => ?_) (fun h => ?_)
  · have hl : W < 64 := by
      have : ¬ W = 64 := fun z => h (by rw [z]; rfl)
      omega
    refine zz_lconst (v := 1) (by decide) dX10_all_15 ?_
    refine zz_aload_n rfl dX10_all_16 ?_
    refine zz_geti dX10_all_17 fX10_152 rfl (os_259 hO) ?_
    refine zz_lshl dX10_all_20 ?_
    refine zz_lconst (v := 1) (by decide) dX10_all_21 ?_
    refine zz_lsub dX10_all_22 ?_
    refine zz_lreturn dX10_all_23 rfl ?_
    rw [h1]
    exact hQ _ (bl_all hl)
  · skip
    have hl : W = 64 := (nI_eq (b := 64) (by omega) (by decide)).mp h
    refine zz_ldc2 tX10_155 dX10_all_9 ?_
    refine zz_goto (tgt := 23) dX10_all_12 (by decide) ?_
    refine zz_lreturn dX10_all_23 rfl ?_
    refine hQ _ (funext fun i => ?_)
    unfold ltW
    by_cases hi : i < 64
    · rw [bl_m1 i hi]; simp [hl, hi]
    · rw [bl_big (by omega)]; simp [hl, hi]
theorem sp_spell (d : Nat) (hO : OK M) {l n k mo : Nat} {kd ag : Int32} {E : Nat → Nat → Bool} {sg : Nat → Int32} {rw : Nat → Nat → Int32} (hl : l < 8) (hn1 : 1 ≤ n) (hn : n ≤ 24) (hc : ML I l n kd ag E sg rw) (hk : k ≤ 6) (hmo : mo ≤ 64) (h1 : ¬ n ^ k ≤ mo → Q (some (.int 0)) M I J) (h2 : n ^ k ≤ mo → ∀ (J' : zz_J), (∀ a, a ≠ 269 → J' a = J a) → NR J' (n ^ k) (tkB n E k) → Q (some (.int 1)) M (zz_ui I 259 13 (nI (n ^ k))) J') : zz_D mX10_spell (d + 3) [.ref 259, .int (nI l), .int (nI k), .int (nI mo)] M I J Q := by
  have v1 : vp_in (nI l) 8 := vp_in_nI hl (by decide)
  have cl1 : (nI l).toNatClampNeg = l := nI_clamp (by omega)
  refine zz_D_of rfl (Nat.le_of_ble_eq_true rfl) ?_
  try dsimp only [zz_s1, zz_s2, zz_kill, zz_ent, zz_fl, List.set_cons_zero, List.set_cons_succ, List.getElem?_cons_zero, List.getElem?_cons_succ, Option.toList_some, Option.toList_none, List.cons_append, List.nil_append, List.append_nil, List.length_cons, List.length_nil, List.replicate_succ, List.replicate_zero, Nat.reduceAdd, Nat.reduceSub]
  refine zz_lconst (v := 1) (by decide) dX10_spell_0 ?_
  refine zz_lstore dX10_spell_1 (by decide) ?_
  refine zz_iconst (v := 0) (by decide) dX10_spell_3 ?_
  refine zz_istore dX10_spell_4 (by decide) ?_
  try dsimp only [zz_s1, zz_s2, zz_kill, zz_ent, zz_fl, List.set_cons_zero, List.set_cons_succ, List.getElem?_cons_zero, List.getElem?_cons_succ, Option.toList_some, Option.toList_none, List.cons_append, List.nil_append, List.append_nil, List.length_cons, List.length_nil, List.replicate_succ, List.replicate_zero, Nat.reduceAdd, Nat.reduceSub]
  have rest : ∀ (p i : Nat) (z7 : Option Value), p ≤ 64 * 24 → (n ^ k ≤ mo ↔ p ≤ mo) → (p ≤ mo → p = n ^ k) → zz_G mX10_spell (d + 3) 0 38 [some (.ref 259), some (.int (nI l)), some (.int (nI k)), some (.int (nI mo)), some (.long (lN p)), none, some (.int (nI i)), z7] [] M I J Q := by
    intro p i z7 hp hiff heq
    refine zz_lload rfl dX10_spell_38 ?_
    refine zz_iload_n rfl dX10_spell_40 ?_
    refine zz_i2l dX10_spell_41 ?_
    refine zz_lcmp dX10_spell_42 ?_
    try dsimp only [zz_s1, zz_s2, zz_kill, zz_ent, zz_fl, List.set_cons_zero, List.set_cons_succ, List.getElem?_cons_zero, List.getElem?_cons_succ, Option.toList_some, Option.toList_none, List.cons_append, List.nil_append, List.append_nil, List.length_cons, List.length_nil, List.replicate_succ, List.replicate_zero, Nat.reduceAdd, Nat.reduceSub]
    rw [nI_l (by omega)]
    refine zz_if_le (tgt := 48) dX10_spell_43 (by decide) (fun h => ?_) (fun h => ?_)
    rotate_left
    · refine zz_iconst (v := 0) (by decide) dX10_spell_46 ?_
      refine zz_ireturn dX10_spell_47 rfl (by first | rfl | decide | assumption) ?_
      refine h1 (fun z => h (le_cmp.mpr fun y => ?_))
      have := (pk_lLT (by omega) (by omega)).mp y
      have := hiff.mp z
      omega
    have hpm : p ≤ mo := Nat.le_of_not_lt fun z => le_cmp.mp h ((pk_lLT (by omega) (by omega)).mpr z)
    have ep := heq hpm
    subst ep
    have hp1 : 1 ≤ n ^ k := Nat.pow_pos (by omega)
    refine zz_aload_n rfl dX10_spell_48 ?_
    refine zz_lload rfl dX10_spell_49 ?_
    refine zz_l2i dX10_spell_51 ?_
    refine zz_puti dX10_spell_52 fX10_152 rfl (fun q h => by cases h; rfl) (os_259 hO) ?_
    refine zz_iconst (v := 0) (by decide) dX10_spell_55 ?_
    refine zz_istore dX10_spell_56 (by decide) ?_
    try dsimp only [zz_s1, zz_s2, zz_kill, zz_ent, zz_fl, List.set_cons_zero, List.set_cons_succ, List.getElem?_cons_zero, List.getElem?_cons_succ, Option.toList_some, Option.toList_none, List.cons_append, List.nil_append, List.append_nil, List.length_cons, List.length_nil, List.replicate_succ, List.replicate_zero, Nat.reduceAdd, Nat.reduceSub]
    rw [lN_i]
    generalize hI1 : zz_ui I 259 13 (nI (n ^ k)) = I1
    have e13 : I1 259 13 = nI (n ^ k) := by rw [← hI1, zz_ui_at, pk_us]
    have e1 : ∀ c, c ≠ 259 → I1 c = I c := fun c h => by rw [← hI1, zz_ui_ne _ _ _ h]
    have inner : ∀ (v : Nat), v < n ^ k → (∀ (Jy : zz_J) (z7 : Option Value), (∀ a, a ≠ 269 → Jy a = J a) → (∀ v', v' < v + 1 → ∀ w, bl (Jy 269 v') w = (decide (w < n ^ k ∧ w ≠ v') && tkB n E k v' w)) → zz_G mX10_spell (d + 3) 0 127 [some (.ref 259), some (.int (nI l)), some (.int (nI k)), some (.int (nI mo)), some (.long (lN (n ^ k))), none, some (.int (nI v)), z7] [] M I1 Jy Q) → ∀ (q w : Nat) (Jx : zz_J), w + q = n ^ k → (∀ a, a ≠ 269 → Jx a = J a) → (∀ v', v' < v → ∀ w, bl (Jx 269 v') w = (decide (w < n ^ k ∧ w ≠ v') && tkB n E k v' w)) → (∀ w', bl (Jx 269 v) w' = (decide (w' < w ∧ w' ≠ v) && tkB n E k v w')) → zz_G mX10_spell (d + 3) 0 78 [some (.ref 259), some (.int (nI l)), some (.int (nI k)), some (.int (nI mo)), some (.long (lN (n ^ k))), none, some (.int (nI v)), some (.int (nI w))] [] M I1 Jx Q := by
      intro v hv hk2 q
      induction q with
      | zero =>
        intro w Jx hw f1 f2 f3
        have e : w = n ^ k := by omega
        subst e
        refine zz_iload rfl dX10_spell_78 ?_
        refine zz_aload_n rfl dX10_spell_80 ?_
        refine zz_geti dX10_spell_81 fX10_152 rfl (os_259 hO) ?_
        try dsimp only [zz_s1, zz_s2, zz_kill, zz_ent, zz_fl, List.set_cons_zero, List.set_cons_succ, List.getElem?_cons_zero, List.getElem?_cons_succ, Option.toList_some, Option.toList_none, List.cons_append, List.nil_append, List.append_nil, List.length_cons, List.length_nil, List.replicate_succ, List.replicate_zero, Nat.reduceAdd, Nat.reduceSub]
        rw [e13]
        refine zz_icmp_ge (tgt := 127) dX10_spell_84 (by decide) (fun h3 => ?_) (fun h3 => ?_)
        · refine hk2 Jx _ f1 (fun v' hv' => ?_)
          by_cases e : v' = v
          · rw [e]; exact f3
          · exact f2 v' (by omega)
        · exact absurd (nI_le (Nat.le_refl _) (by omega)) h3
      | succ q ih =>
        intro w Jx hw f1 f2 f3
        have hw64 : w < 64 := by omega
        refine zz_iload rfl dX10_spell_78 ?_
        refine zz_aload_n rfl dX10_spell_80 ?_
        refine zz_geti dX10_spell_81 fX10_152 rfl (os_259 hO) ?_
        try dsimp only [zz_s1, zz_s2, zz_kill, zz_ent, zz_fl, List.set_cons_zero, List.set_cons_succ, List.getElem?_cons_zero, List.getElem?_cons_succ, Option.toList_some, Option.toList_none, List.cons_append, List.nil_append, List.append_nil, List.length_cons, List.length_nil, List.replicate_succ, List.replicate_zero, Nat.reduceAdd, Nat.reduceSub]
        rw [e13]
        refine zz_icmp_ge (tgt := 127) dX10_spell_84 (by decide) (fun h3 => ?_) (fun h3 => ?_)
        · exact absurd h3 (nI_ge (by omega) (by omega))
        refine zz_iload rfl dX10_spell_87 ?_
        refine zz_iload rfl dX10_spell_89 ?_
        try dsimp only [zz_s1, zz_s2, zz_kill, zz_ent, zz_fl, List.set_cons_zero, List.set_cons_succ, List.getElem?_cons_zero, List.getElem?_cons_succ, Option.toList_some, Option.toList_none, List.cons_append, List.nil_append, List.append_nil, List.length_cons, List.length_nil, List.replicate_succ, List.replicate_zero, Nat.reduceAdd, Nat.reduceSub]
        have skip : (w = v ∨ tkB n E k v w = false) → zz_G mX10_spell (d + 3) 0 121 [some (.ref 259), some (.int (nI l)), some (.int (nI k)), some (.int (nI mo)), some (.long (lN (n ^ k))), none, some (.int (nI v)), some (.int (nI w))] [] M I1 Jx Q := by
          intro hs
          refine zz_iinc dX10_spell_121 rfl (congrArg (HAdd.hAdd _) (show Int32.ofInt 1 = 1 by decide)) (by decide) ?_
          refine zz_goto (tgt := 78) dX10_spell_124 (by decide) ?_
          try dsimp only [zz_s1, zz_s2, zz_kill, zz_ent, zz_fl, List.set_cons_zero, List.set_cons_succ, List.getElem?_cons_zero, List.getElem?_cons_succ, Option.toList_some, Option.toList_none, List.cons_append, List.nil_append, List.append_nil, List.length_cons, List.length_nil, List.replicate_succ, List.replicate_zero, Nat.reduceAdd, Nat.reduceSub]
          rw [nI_1]
          refine ih (w + 1) Jx (by omega) f1 f2 (fun w' => ?_)
          rw [f3 w']
          by_cases e : w' = w
          · rw [e]
            rcases hs with z | z
            · simp [z]
            · rw [z]; simp
          · by_cases e2 : w' < w
            · simp [e2, show w' < w + 1 by omega]
            · simp [e2, show ¬ w' < w + 1 by omega]
        refine zz_icmp_eq (tgt := 121) dX10_spell_91 (by decide) (fun h4 => ?_) (fun h4 => ?_)
        · exact skip (Or.inl ((nI_eq (by omega) (by omega)).mp h4).symm)
        have hvw : ¬ w = v := fun z => h4 (by rw [z])
        refine zz_aload_n rfl dX10_spell_94 ?_
        refine zz_iload_n rfl dX10_spell_95 ?_
        refine zz_iload_n rfl dX10_spell_96 ?_
        refine zz_iload rfl dX10_spell_97 ?_
        refine zz_iload rfl dX10_spell_99 ?_
        try dsimp only [zz_s1, zz_s2, zz_kill, zz_ent, zz_fl, List.set_cons_zero, List.set_cons_succ, List.getElem?_cons_zero, List.getElem?_cons_succ, Option.toList_some, Option.toList_none, List.cons_append, List.nil_append, List.append_nil, List.length_cons, List.length_nil, List.replicate_succ, List.replicate_zero, Nat.reduceAdd, Nat.reduceSub]
        refine zz_cV4 dX10_spell_101 lX10_148 rfl (os_259 hO) rfl rfl (Nat.le_of_ble_eq_true rfl) (Nat.le_of_ble_eq_true rfl) ?_
        refine sp_areTaken d hO (E := E) hl hn1 hn (by rw [e1 260 (by decide)]; exact hc.2.1) (fun a ha b hb => by rw [e1 262 (by decide)]; exact hc.2.2.2.1 a ha b hb) (by omega) (by omega) (by omega) (fun r hr => ?_)
        try dsimp only [zz_s1, zz_s2, zz_kill, zz_ent, zz_fl, List.set_cons_zero, List.set_cons_succ, List.getElem?_cons_zero, List.getElem?_cons_succ, Option.toList_some, Option.toList_none, List.cons_append, List.nil_append, List.append_nil, List.length_cons, List.length_nil, List.replicate_succ, List.replicate_zero, Nat.reduceAdd, Nat.reduceSub]
        refine zz_if_eq (tgt := 121) dX10_spell_104 (by decide) (fun h5 => ?_) (fun h5 => ?_)
        · refine skip (Or.inr ?_)
          cases z : tkB n E k v w with
          | false => rfl
          | true => exact absurd (tkB_iff.mp z) (hr.f h5)
        · skip
          have ht := tkB_iff.mpr (hr.t h5)
          refine zz_aload_n rfl dX10_spell_107 ?_
          refine zz_getr dX10_spell_108 fX10_42 (fun _ _ _ _ => rfl) (os_259 hO) (or_259_12 hO) ?_
          refine zz_iload rfl dX10_spell_111 ?_
          refine zz_dup2 rfl rfl dX10_spell_113 ?_
          refine zz_lald dX10_spell_114 (os_269 hO) (vp_in_nI (show v < 64 by omega) (by decide)) ?_
          refine zz_lconst (v := 1) (by decide) dX10_spell_115 ?_
          refine zz_iload rfl dX10_spell_116 ?_
          refine zz_lshl dX10_spell_118 ?_
          refine zz_lor dX10_spell_119 ?_
          refine zz_last dX10_spell_120 (os_269 hO) (vp_in_nI (show v < 64 by omega) (by decide)) ?_
          refine zz_iinc dX10_spell_121 rfl (congrArg (HAdd.hAdd _) (show Int32.ofInt 1 = 1 by decide)) (by decide) ?_
          refine zz_goto (tgt := 78) dX10_spell_124 (by decide) ?_
          try dsimp only [zz_s1, zz_s2, zz_kill, zz_ent, zz_fl, List.set_cons_zero, List.set_cons_succ, List.getElem?_cons_zero, List.getElem?_cons_succ, Option.toList_some, Option.toList_none, List.cons_append, List.nil_append, List.append_nil, List.length_cons, List.length_nil, List.replicate_succ, List.replicate_zero, Nat.reduceAdd, Nat.reduceSub]
          rw [nI_1, nI_clamp (show v < 2 ^ 31 by omega)]
          refine ih (w + 1) _ (by omega) (fun a ha => ?_) (fun v' hv' w' => ?_) (fun w' => ?_)
          · rw [zz_uj_ne _ _ _ ha]; exact f1 a ha
          · rw [zz_uj_at, pk_uLn (by omega)]; exact f2 v' hv' w'
          · rw [zz_uj_at, pk_uLs, bl_or, bl_one' hw64, f3 w']
            by_cases e : w' = w
            · rw [e, ht]; simp [hvw]
            · by_cases e2 : w' < w
              · simp [e, e2, show w' < w + 1 by omega]
              · simp [e, e2, show ¬ w' < w + 1 by omega]
    have outer : ∀ (q v : Nat) (Jx : zz_J) (z7 : Option Value), v + q = n ^ k → (∀ a, a ≠ 269 → Jx a = J a) → (∀ v', v' < v → ∀ w, bl (Jx 269 v') w = (decide (w < n ^ k ∧ w ≠ v') && tkB n E k v' w)) → zz_G mX10_spell (d + 3) 0 58 [some (.ref 259), some (.int (nI l)), some (.int (nI k)), some (.int (nI mo)), some (.long (lN (n ^ k))), none, some (.int (nI v)), z7] [] M I1 Jx Q := by
      intro q
      induction q with
      | zero =>
        intro v Jx z7 hv f1 f2
        have e : v = n ^ k := by omega
        subst e
        refine zz_iload rfl dX10_spell_58 ?_
        refine zz_aload_n rfl dX10_spell_60 ?_
        refine zz_geti dX10_spell_61 fX10_152 rfl (os_259 hO) ?_
        try dsimp only [zz_s1, zz_s2, zz_kill, zz_ent, zz_fl, List.set_cons_zero, List.set_cons_succ, List.getElem?_cons_zero, List.getElem?_cons_succ, Option.toList_some, Option.toList_none, List.cons_append, List.nil_append, List.append_nil, List.length_cons, List.length_nil, List.replicate_succ, List.replicate_zero, Nat.reduceAdd, Nat.reduceSub]
        rw [e13]
        refine zz_icmp_ge (tgt := 133) dX10_spell_64 (by decide) (fun h3 => ?_) (fun h3 => ?_)
        · refine zz_iconst (v := 1) (by decide) dX10_spell_133 ?_
          refine zz_ireturn dX10_spell_134 rfl (by first | rfl | decide | assumption) ?_
          rw [← hI1]
          exact h2 hpm Jx f1 f2
        · exact absurd (nI_le (Nat.le_refl _) (by omega)) h3
      | succ q ih =>
        intro v Jx z7 hv f1 f2
        refine zz_iload rfl dX10_spell_58 ?_
        refine zz_aload_n rfl dX10_spell_60 ?_
        refine zz_geti dX10_spell_61 fX10_152 rfl (os_259 hO) ?_
        try dsimp only [zz_s1, zz_s2, zz_kill, zz_ent, zz_fl, List.set_cons_zero, List.set_cons_succ, List.getElem?_cons_zero, List.getElem?_cons_succ, Option.toList_some, Option.toList_none, List.cons_append, List.nil_append, List.append_nil, List.length_cons, List.length_nil, List.replicate_succ, List.replicate_zero, Nat.reduceAdd, Nat.reduceSub]
        rw [e13]
        refine zz_icmp_ge (tgt := 133) dX10_spell_64 (by decide) (fun h3 => ?_) (fun h3 => ?_)
        · exact absurd h3 (nI_ge (by omega) (by omega))
        refine zz_aload_n rfl dX10_spell_67 ?_
        refine zz_getr dX10_spell_68 fX10_42 (fun _ _ _ _ => rfl) (os_259 hO) (or_259_12 hO) ?_
        refine zz_iload rfl dX10_spell_71 ?_
        refine zz_lconst (v := 0) (by decide) dX10_spell_73 ?_
        refine zz_last dX10_spell_74 (os_269 hO) (vp_in_nI (show v < 64 by omega) (by decide)) ?_
        refine zz_iconst (v := 0) (by decide) dX10_spell_75 ?_
        refine zz_istore dX10_spell_76 (by decide) ?_
        try dsimp only [zz_s1, zz_s2, zz_kill, zz_ent, zz_fl, List.set_cons_zero, List.set_cons_succ, List.getElem?_cons_zero, List.getElem?_cons_succ, Option.toList_some, Option.toList_none, List.cons_append, List.nil_append, List.append_nil, List.length_cons, List.length_nil, List.replicate_succ, List.replicate_zero, Nat.reduceAdd, Nat.reduceSub]
        rw [nI_clamp (show v < 2 ^ 31 by omega)]
        refine inner v (by omega) (fun Jy z7 k1 k2 => ?_) (n ^ k) 0 _ (by omega) (fun a ha => ?_) (fun v' hv' w => ?_) (fun w' => ?_)
        · skip
          refine zz_iinc dX10_spell_127 rfl (congrArg (HAdd.hAdd _) (show Int32.ofInt 1 = 1 by decide)) (by decide) ?_
          refine zz_goto (tgt := 58) dX10_spell_130 (by decide) ?_
          try dsimp only [zz_s1, zz_s2, zz_kill, zz_ent, zz_fl, List.set_cons_zero, List.set_cons_succ, List.getElem?_cons_zero, List.getElem?_cons_succ, Option.toList_some, Option.toList_none, List.cons_append, List.nil_append, List.append_nil, List.length_cons, List.length_nil, List.replicate_succ, List.replicate_zero, Nat.reduceAdd, Nat.reduceSub]
          rw [nI_1]
          exact ih (v + 1) Jy _ (by omega) k1 k2
        · rw [zz_uj_ne _ _ _ ha]; exact f1 a ha
        · rw [zz_uj_at, pk_uLn (by omega)]; exact f2 v' hv' w
        · rw [zz_uj_at, pk_uLs, bl_0]; simp
    exact outer (n ^ k) 0 J _ (by omega) (fun _ _ => rfl) (fun v' hv' => by omega)
  have loop : ∀ (q i : Nat), i + q = k → n ^ i ≤ 64 * 24 → zz_G mX10_spell (d + 3) 0 6 [some (.ref 259), some (.int (nI l)), some (.int (nI k)), some (.int (nI mo)), some (.long (lN (n ^ i))), none, some (.int (nI i)), none] [] M I J Q := by
    intro q
    induction q with
    | zero =>
      intro i hi hp
      have e : i = k := by omega
      subst e
      refine zz_iload rfl dX10_spell_6 ?_
      refine zz_iload_n rfl dX10_spell_8 ?_
      try dsimp only [zz_s1, zz_s2, zz_kill, zz_ent, zz_fl, List.set_cons_zero, List.set_cons_succ, List.getElem?_cons_zero, List.getElem?_cons_succ, Option.toList_some, Option.toList_none, List.cons_append, List.nil_append, List.append_nil, List.length_cons, List.length_nil, List.replicate_succ, List.replicate_zero, Nat.reduceAdd, Nat.reduceSub]
      refine zz_icmp_ge (tgt := 38) dX10_spell_9 (by decide) (fun h => ?_) (fun h => ?_)
      · exact rest (n ^ i) i _ hp Iff.rfl (fun _ => rfl)
      · exact absurd (nI_le (Nat.le_refl i) (by omega)) h
    | succ q ih =>
      intro i hi hp
      refine zz_iload rfl dX10_spell_6 ?_
      refine zz_iload_n rfl dX10_spell_8 ?_
      try dsimp only [zz_s1, zz_s2, zz_kill, zz_ent, zz_fl, List.set_cons_zero, List.set_cons_succ, List.getElem?_cons_zero, List.getElem?_cons_succ, Option.toList_some, Option.toList_none, List.cons_append, List.nil_append, List.append_nil, List.length_cons, List.length_nil, List.replicate_succ, List.replicate_zero, Nat.reduceAdd, Nat.reduceSub]
      refine zz_icmp_ge (tgt := 38) dX10_spell_9 (by decide) (fun h => ?_) (fun h => ?_)
      · exact absurd h (nI_ge (by omega) (by omega))
      · skip
        refine zz_lload rfl dX10_spell_12 ?_
        refine zz_iload_n rfl dX10_spell_14 ?_
        refine zz_i2l dX10_spell_15 ?_
        refine zz_lcmp dX10_spell_16 ?_
        try dsimp only [zz_s1, zz_s2, zz_kill, zz_ent, zz_fl, List.set_cons_zero, List.set_cons_succ, List.getElem?_cons_zero, List.getElem?_cons_succ, Option.toList_some, Option.toList_none, List.cons_append, List.nil_append, List.append_nil, List.length_cons, List.length_nil, List.replicate_succ, List.replicate_zero, Nat.reduceAdd, Nat.reduceSub]
        rw [nI_l (by omega)]
        refine zz_if_gt (tgt := 38) dX10_spell_17 (by decide) (fun h3 => ?_) (fun h3 => ?_)
        · have hlt : mo < n ^ i := (pk_lLT (by omega) (by omega)).mp (cmp_gt.mp h3)
          have hle : n ^ i ≤ n ^ k := Nat.pow_le_pow_right (by omega) (by omega)
          exact rest (n ^ i) i _ hp ⟨fun z => by omega, fun z => by omega⟩ (fun z => by omega)
        · skip
          have hle : n ^ i ≤ mo := Nat.le_of_not_lt fun z => h3 (cmp_gt.mpr ((pk_lLT (by omega) (by omega)).mpr z))
          refine zz_lload rfl dX10_spell_20 ?_
          refine zz_aload_n rfl dX10_spell_22 ?_
          refine zz_getr dX10_spell_23 fX10_9 (fun _ _ _ _ => rfl) (os_259 hO) (or_259_0 hO) ?_
          refine zz_iload_n rfl dX10_spell_26 ?_
          refine zz_iald dX10_spell_27 (os_260 hO) v1 ?_
          refine zz_i2l dX10_spell_28 ?_
          refine zz_lmul dX10_spell_29 ?_
          refine zz_lstore dX10_spell_30 (by decide) ?_
          refine zz_iinc dX10_spell_32 rfl (congrArg (HAdd.hAdd _) (show Int32.ofInt 1 = 1 by decide)) (by decide) ?_
          refine zz_goto (tgt := 6) dX10_spell_35 (by decide) ?_
          try dsimp only [zz_s1, zz_s2, zz_kill, zz_ent, zz_fl, List.set_cons_zero, List.set_cons_succ, List.getElem?_cons_zero, List.getElem?_cons_succ, Option.toList_some, Option.toList_none, List.cons_append, List.nil_append, List.append_nil, List.length_cons, List.length_nil, List.replicate_succ, List.replicate_zero, Nat.reduceAdd, Nat.reduceSub]
          rw [nI_1, cl1, hc.2.1, nI_l (by omega), lN_mul, ← Nat.pow_succ]
          refine ih (i + 1) (by omega) ?_
          rw [Nat.pow_succ]
          exact Nat.mul_le_mul (by omega) hn
  exact loop k 0 (by omega) (by rw [Nat.pow_zero]; decide)
theorem sp_cover (d : Nat) (hO : OK M) (hW : W ≤ 64) (sy : ∀ x y, N x y = N y x) (hN : NR J W N) {set : Int64} {e : Nat} (he : e ≤ 64) (hs : sb set W) (hQ : ∀ c : Nat, c ≤ e → (c < e → al N 64 (bl set) ≤ c) → Q (some (.int (nI c))) M I J) : zz_D mX10_cover (d + 1) [.ref 259, .long set, .int (nI e)] M I J Q := by
  refine zz_D_of rfl (Nat.le_of_ble_eq_true rfl) ?_
  try dsimp only [zz_s1, zz_s2, zz_kill, zz_ent, zz_fl, List.set_cons_zero, List.set_cons_succ, List.getElem?_cons_zero, List.getElem?_cons_succ, Option.toList_some, Option.toList_none, List.cons_append, List.nil_append, List.append_nil, List.length_cons, List.length_nil, List.replicate_succ, List.replicate_zero, Nat.reduceAdd, Nat.reduceSub]
  refine zz_iconst (v := 0) (by decide) dX10_cover_0 ?_
  refine zz_istore dX10_cover_1 (by decide) ?_
  refine zz_lload_n rfl dX10_cover_3 ?_
  refine zz_lstore dX10_cover_4 (by decide) ?_
  try dsimp only [zz_s1, zz_s2, zz_kill, zz_ent, zz_fl, List.set_cons_zero, List.set_cons_succ, List.getElem?_cons_zero, List.getElem?_cons_succ, Option.toList_some, Option.toList_none, List.cons_append, List.nil_append, List.append_nil, List.length_cons, List.length_nil, List.replicate_succ, List.replicate_zero, Nat.reduceAdd, Nat.reduceSub]
  have inner : ∀ (n L : Nat), (∀ (left : Int64) (z7 z9 : Option Value), fb_ct (bl left) 64 < L → (∀ w, bl left w = true → bl set w = true) → al N 64 (bl set) ≤ (n + 1) + al N 64 (bl left) → zz_G mX10_cover (d + 1) 0 65 [some (.ref 259), some (.long set), none, some (.int (nI e)), some (.int (nI n)), some (.long left), none, z7, none, z9] [] M I J Q) → ∀ (q : Nat) (left may : Int64) (z9 : Option Value), fb_ct (bl may) 64 ≤ q → (∀ w, bl left w = true → bl set w = true) → (fb_ct (bl left) 64 < L ∨ (¬ may = 0 ∧ fb_ct (bl left) 64 ≤ L)) → grI N (bl set) (n + 1) (bl left) (bl may) → zz_G mX10_cover (d + 1) 0 23 [some (.ref 259), some (.long set), none, some (.int (nI e)), some (.int (nI n)), some (.long left), none, some (.long may), none, z9] [] M I J Q := by
    intro n L hk q
    induction q with
    | zero =>
      intro left may z9 hc g1 g2 g3
      have e0 : may = 0 := ct0 (by omega)
      refine zz_lload rfl dX10_cover_23 ?_
      refine zz_lconst (v := 0) (by decide) dX10_cover_25 ?_
      refine zz_lcmp dX10_cover_26 ?_
      try dsimp only [zz_s1, zz_s2, zz_kill, zz_ent, zz_fl, List.set_cons_zero, List.set_cons_succ, List.getElem?_cons_zero, List.getElem?_cons_succ, Option.toList_some, Option.toList_none, List.cons_append, List.nil_append, List.append_nil, List.length_cons, List.length_nil, List.replicate_succ, List.replicate_zero, Nat.reduceAdd, Nat.reduceSub]
      refine zz_if_eq (tgt := 65) dX10_cover_27 (by decide) (fun h => ?_) (fun h => ?_)
      · exact hk left _ _ (g2.elim id (fun z => absurd e0 z.1)) g1 (grI_end sy g3)
      · exact absurd (cmp_eq.mpr e0) h
    | succ q ih =>
      intro left may z9 hc g1 g2 g3
      refine zz_lload rfl dX10_cover_23 ?_
      refine zz_lconst (v := 0) (by decide) dX10_cover_25 ?_
      refine zz_lcmp dX10_cover_26 ?_
      try dsimp only [zz_s1, zz_s2, zz_kill, zz_ent, zz_fl, List.set_cons_zero, List.set_cons_succ, List.getElem?_cons_zero, List.getElem?_cons_succ, Option.toList_some, Option.toList_none, List.cons_append, List.nil_append, List.append_nil, List.length_cons, List.length_nil, List.replicate_succ, List.replicate_zero, Nat.reduceAdd, Nat.reduceSub]
      refine zz_if_eq (tgt := 65) dX10_cover_27 (by decide) (fun h => ?_) (fun h => ?_)
      · have e0 : may = 0 := cmp_eq.mp h
        exact hk left _ _ (g2.elim id (fun z => absurd e0 z.1)) g1 (grI_end sy g3)
      · skip
        have hne : ¬ may = 0 := fun z => h (cmp_eq.mpr z)
        obtain ⟨v, hv, hl⟩ := lowb_ex hne
        have hvl : bl left v = true := by obtain ⟨B, _, _, _, _, h5, _⟩ := g3; exact h5 v hl.1
        have hvW := hs v (g1 v hvl)
        have c1 := ct_rm hv hvl
        have hms : sb may W := fun w hw => by obtain ⟨B, _, _, _, _, h5, _⟩ := g3; exact hs w (g1 w (h5 w hw))
        have hml : ∀ w, bl may w = true → bl left w = true := fun w hw => by obtain ⟨B, _, _, _, _, h5, _⟩ := g3; exact h5 w hw
        refine zz_lload rfl dX10_cover_30 ?_
        try dsimp only [zz_s1, zz_s2, zz_kill, zz_ent, zz_fl, List.set_cons_zero, List.set_cons_succ, List.getElem?_cons_zero, List.getElem?_cons_succ, Option.toList_some, Option.toList_none, List.cons_append, List.nil_append, List.append_nil, List.length_cons, List.length_nil, List.replicate_succ, List.replicate_zero, Nat.reduceAdd, Nat.reduceSub]
        refine zz_cS1 dX10_cover_32 lX10_157 rfl (Nat.le_of_ble_eq_true rfl) (Nat.le_of_ble_eq_true rfl) ?_
        refine sp_X10_lowest d hl ?_
        try dsimp only [zz_s1, zz_s2, zz_kill, zz_ent, zz_fl, List.set_cons_zero, List.set_cons_succ, List.getElem?_cons_zero, List.getElem?_cons_succ, Option.toList_some, Option.toList_none, List.cons_append, List.nil_append, List.append_nil, List.length_cons, List.length_nil, List.replicate_succ, List.replicate_zero, Nat.reduceAdd, Nat.reduceSub]
        refine zz_istore dX10_cover_35 (by decide) ?_
        refine zz_lload rfl dX10_cover_37 ?_
        refine zz_lconst (v := 1) (by decide) dX10_cover_39 ?_
        refine zz_iload rfl dX10_cover_40 ?_
        refine zz_lshl dX10_cover_42 ?_
        refine zz_ldc2 tX10_155 dX10_cover_43 ?_
        refine zz_lxor dX10_cover_46 ?_
        refine zz_land dX10_cover_47 ?_
        refine zz_lstore dX10_cover_48 (by decide) ?_
        refine zz_lload rfl dX10_cover_50 ?_
        refine zz_aload_n rfl dX10_cover_52 ?_
        refine zz_getr dX10_cover_53 fX10_42 (fun _ _ _ _ => rfl) (os_259 hO) (or_259_12 hO) ?_
        refine zz_iload rfl dX10_cover_56 ?_
        refine zz_lald dX10_cover_58 (os_269 hO) (vp_in_nI (show v < 64 by omega) (by decide)) ?_
        refine zz_land dX10_cover_59 ?_
        refine zz_lstore dX10_cover_60 (by decide) ?_
        refine zz_goto (tgt := 23) dX10_cover_62 (by decide) ?_
        try dsimp only [zz_s1, zz_s2, zz_kill, zz_ent, zz_fl, List.set_cons_zero, List.set_cons_succ, List.getElem?_cons_zero, List.getElem?_cons_succ, Option.toList_some, Option.toList_none, List.cons_append, List.nil_append, List.append_nil, List.length_cons, List.length_nil, List.replicate_succ, List.replicate_zero, Nat.reduceAdd, Nat.reduceSub]
        rw [nI_clamp (show v < 2 ^ 31 by omega)]
        have hlt : fb_ct (bl (may &&& J 269 v)) 64 < fb_ct (bl may) 64 := ct_lt hv (fun w hw => by rw [bl_and, Bool.and_eq_true] at hw; exact hw.1) (by rw [nra hN hms hvW]; simp) hl.1
        refine ih _ _ _ (by omega) (fun w hw => ?_) (Or.inl ?_) (grI_step sy g3 hl.1 (fun w => ?_) (fun w hw => ?_))
        · rw [br1 _ hv, rm_t] at hw; exact g1 w hw.1
        · rw [br1 _ hv]
          rcases g2 with z | z
          · omega
          · omega
        · rw [br1 _ hv, rm_t]
        · rw [nra hN hms hvW] at hw
          simp only [Bool.and_eq_true, Bool.not_eq_true', decide_eq_false_iff_not] at hw
          refine ⟨hw.1, hw.2.1, ?_⟩
          rw [br1 _ hv, rm_t]
          exact ⟨hml w hw.1, hw.2.2⟩
  have outer : ∀ (q n : Nat) (left : Int64) (z7 z9 : Option Value), fb_ct (bl left) 64 ≤ q → n ≤ e → (∀ w, bl left w = true → bl set w = true) → al N 64 (bl set) ≤ n + al N 64 (bl left) → zz_G mX10_cover (d + 1) 0 6 [some (.ref 259), some (.long set), none, some (.int (nI e)), some (.int (nI n)), some (.long left), none, z7, none, z9] [] M I J Q := by
    intro q
    induction q with
    | zero =>
      intro n left z7 z9 hc hn g1 g2
      have e0 : left = 0 := ct0 (by omega)
      rw [al_0 (A := bl left) (fun w _ => by rw [e0]; exact bl_0 w)] at g2
      refine zz_lload rfl dX10_cover_6 ?_
      refine zz_lconst (v := 0) (by decide) dX10_cover_8 ?_
      refine zz_lcmp dX10_cover_9 ?_
      try dsimp only [zz_s1, zz_s2, zz_kill, zz_ent, zz_fl, List.set_cons_zero, List.set_cons_succ, List.getElem?_cons_zero, List.getElem?_cons_succ, Option.toList_some, Option.toList_none, List.cons_append, List.nil_append, List.append_nil, List.length_cons, List.length_nil, List.replicate_succ, List.replicate_zero, Nat.reduceAdd, Nat.reduceSub]
      refine zz_if_eq (tgt := 71) dX10_cover_10 (by decide) (fun h => ?_) (fun h => ?_)
      · refine zz_iload rfl dX10_cover_71 ?_
        refine zz_ireturn dX10_cover_73 rfl (by first | rfl | decide | assumption) ?_
        exact hQ n hn (fun _ => g2)
      · exact absurd (cmp_eq.mpr e0) h
    | succ q ih =>
      intro n left z7 z9 hc hn g1 g2
      refine zz_lload rfl dX10_cover_6 ?_
      refine zz_lconst (v := 0) (by decide) dX10_cover_8 ?_
      refine zz_lcmp dX10_cover_9 ?_
      try dsimp only [zz_s1, zz_s2, zz_kill, zz_ent, zz_fl, List.set_cons_zero, List.set_cons_succ, List.getElem?_cons_zero, List.getElem?_cons_succ, Option.toList_some, Option.toList_none, List.cons_append, List.nil_append, List.append_nil, List.length_cons, List.length_nil, List.replicate_succ, List.replicate_zero, Nat.reduceAdd, Nat.reduceSub]
      refine zz_if_eq (tgt := 71) dX10_cover_10 (by decide) (fun h => ?_) (fun h => ?_)
      · have e0 : left = 0 := cmp_eq.mp h
        rw [al_0 (A := bl left) (fun w _ => by rw [e0]; exact bl_0 w)] at g2
        refine zz_iload rfl dX10_cover_71 ?_
        refine zz_ireturn dX10_cover_73 rfl (by first | rfl | decide | assumption) ?_
        exact hQ n hn (fun _ => g2)
      · skip
        have hne : ¬ left = 0 := fun z => h (cmp_eq.mpr z)
        refine zz_iload rfl dX10_cover_13 ?_
        refine zz_iload_n rfl dX10_cover_15 ?_
        try dsimp only [zz_s1, zz_s2, zz_kill, zz_ent, zz_fl, List.set_cons_zero, List.set_cons_succ, List.getElem?_cons_zero, List.getElem?_cons_succ, Option.toList_some, Option.toList_none, List.cons_append, List.nil_append, List.append_nil, List.length_cons, List.length_nil, List.replicate_succ, List.replicate_zero, Nat.reduceAdd, Nat.reduceSub]
        refine zz_icmp_ge (tgt := 71) dX10_cover_16 (by decide) (fun h2 => ?_) (fun h2 => ?_)
        · refine zz_iload rfl dX10_cover_71 ?_
          refine zz_ireturn dX10_cover_73 rfl (by first | rfl | decide | assumption) ?_
          have : e ≤ n := (nI_leI (by omega) (by omega)).mp h2
          exact hQ n hn (fun z => by omega)
        · skip
          have hne2 : n < e := Nat.lt_of_not_le fun z => h2 (nI_le z (by omega))
          refine zz_lload rfl dX10_cover_19 ?_
          refine zz_lstore dX10_cover_21 (by decide) ?_
          try dsimp only [zz_s1, zz_s2, zz_kill, zz_ent, zz_fl, List.set_cons_zero, List.set_cons_succ, List.getElem?_cons_zero, List.getElem?_cons_succ, Option.toList_some, Option.toList_none, List.cons_append, List.nil_append, List.append_nil, List.length_cons, List.length_nil, List.replicate_succ, List.replicate_zero, Nat.reduceAdd, Nat.reduceSub]
          refine inner n (fb_ct (bl left) 64) (fun left' z7 z9 k1 k2 k3 => ?_) 64 left left _ (ct64 _) g1 (Or.inr ⟨hne, Nat.le_refl _⟩) (grI_new g2)
          refine zz_iinc dX10_cover_65 rfl (congrArg (HAdd.hAdd _) (show Int32.ofInt 1 = 1 by decide)) (by decide) ?_
          refine zz_goto (tgt := 6) dX10_cover_68 (by decide) ?_
          try dsimp only [zz_s1, zz_s2, zz_kill, zz_ent, zz_fl, List.set_cons_zero, List.set_cons_succ, List.getElem?_cons_zero, List.getElem?_cons_succ, Option.toList_some, Option.toList_none, List.cons_append, List.nil_append, List.append_nil, List.length_cons, List.length_nil, List.replicate_succ, List.replicate_zero, Nat.reduceAdd, Nat.reduceSub]
          rw [nI_1]
          exact ih (n + 1) left' _ _ (by omega) (by omega) k2 k3
  exact outer 64 0 set _ _ (ct64 _) (by omega) (fun _ z => z) (by omega)
end PSpell

