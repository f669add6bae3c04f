/-! ===== bound: the calls; findBound ===== -/
theorem bm64 {z : Int} (h1 : -9223372036854775808 ≤ z) (h2 : z < 9223372036854775808) : z.bmod (2 ^ 64) = z := by
  rw [Int.bmod_def]
  have hm : (2 : Nat) ^ 64 = 18446744073709551616 := by decide
  rw [hm]
  split
  · rename_i h
    omega
  · rename_i h
    omega
theorem mulL {x y : Int64} (h1 : -9223372036854775808 ≤ x.toInt * y.toInt) (h2 : x.toInt * y.toInt < 9223372036854775808) : (x * y).toInt = x.toInt * y.toInt := by
  rw [Int64.toInt_mul]
  exact bm64 h1 h2
theorem jt_lN {r : Nat → Nat → Int32} (hr : rok r) {a : Nat} (ha : a < 25) : (prd r a 24 6).toInt64 * (prd r a 24 6).toInt64 = lN (un r a) := by
  have h := prd_int hr ha (show 24 < 25 by decide) 6 (Nat.le_refl _)
  have hz : prz r a 24 6 * prz r a 24 6 = (un r a : Int) := by
    unfold un
    rw [← Int.natAbs_mul_self]
  have hu := (jt_nI hr ha).2.1
  apply Int64.toInt_inj.mp
  rw [mulL (by rw [i2l_int, h.1, hz]; omega) (by rw [i2l_int, h.1, hz]; omega), i2l_int, h.1, hz, pk_lT (by omega)]
theorem ML_of {l n : Nat} {kd ag : Int32} {E : Nat → Nat → Bool} {sg : Nat → Int32} {rw : Nat → Nat → Int32} {I I' : zz_I} (h : ∀ c, 260 ≤ c → c ≤ 265 → I' c = I c) (hm : ML I l n kd ag E sg rw) : ML I' l n kd ag E sg rw :=
  ⟨by rw [h _ (by decide) (by decide)]; exact hm.1, by rw [h _ (by decide) (by decide)]; exact hm.2.1, by rw [h _ (by decide) (by decide)]; exact hm.2.2.1, by rw [h _ (by decide) (by decide)]; exact hm.2.2.2.1, by rw [h _ (by decide) (by decide)]; exact hm.2.2.2.2.1, by rw [h _ (by decide) (by decide)]; exact hm.2.2.2.2.2⟩
section PBoundM
variable {M : zz_M} {I : zz_I} {J : zz_J} {Q : zz_Q}
theorem sp_findBound (d : Nat) (hO : OK M) {l n : Nat} {kd ag : Int32} {E : Nat → Nat → Bool} {sg : Nat → Int32} {rw : Nat → Nat → Int32} (hl : l < 8) (hn1 : 1 ≤ n) (hn : n ≤ 24) (hr : rok rw) (hc : ML I l n kd ag E sg rw) (hok : ∀ a, a < n → ¬ prd rw a 24 6 = 0)
    (hQ : ∀ (I' : zz_I) (J' : zz_J), (∀ c, c ≠ 259 → I' c = I c) → (∀ i, i ≠ 25 → I' 259 i = I 259 i) → (∀ c, c ≠ 259 → J' c = J c) → J' 259 23 = lN ((bs rw n).1 / Nat.gcd (bs rw n).1 (bs rw n).2.1) → J' 259 24 = lN ((bs rw n).2.1 / Nat.gcd (bs rw n).1 (bs rw n).2.1) → I' 259 25 = nI (bs rw n).2.2 → Q none M I' J') : zz_D mX10_findBound (d + 2) [.ref 259, .int (nI l)] M I J Q := by
  have v1 : vp_in (nI l) 8 := vp_in_nI hl (by decide)
  have cl1 : (nI l).toNatClampNeg = l := nI_clamp (by omega)
  have hbn := bs_le hr n hn
  have hpn := bs_pos hr hn hok n (Nat.le_refl _)
  refine zz_D_of rfl (Nat.le_of_ble_eq_true rfl) ?_
  try dsimp only [zz_s1, zz_s2, zz_kill, zz_ent, zz_fl, List.set_cons_zero, List.set_cons_succ, List.getElem?_cons_zero, List.getElem?_cons_succ, Option.toList_some, Option.toList_none, List.cons_append, List.nil_append, List.append_nil, List.length_cons, List.length_nil, List.replicate_succ, List.replicate_zero, Nat.reduceAdd, Nat.reduceSub]
  refine zz_aload_n rfl dX10_findBound_0 ?_
  refine zz_iconst (v := (-1)) (by decide) dX10_findBound_1 ?_
  refine zz_puti dX10_findBound_2 fX10_216 rfl (fun q h => by cases h; rfl) (os_259 hO) ?_
  refine zz_iconst (v := 0) (by decide) dX10_findBound_5 ?_
  refine zz_istore_n dX10_findBound_6 (by decide) ?_
  try dsimp only [zz_s1, zz_s2, zz_kill, zz_ent, zz_fl, List.set_cons_zero, List.set_cons_succ, List.getElem?_cons_zero, List.getElem?_cons_succ, Option.toList_some, Option.toList_none, List.cons_append, List.nil_append, List.append_nil, List.length_cons, List.length_nil, List.replicate_succ, List.replicate_zero, Nat.reduceAdd, Nat.reduceSub]
  have euc : ∀ (w g l' : Nat) (Ix : zz_I) (Jx : zz_J) (z6 : Option Value), l' = w → g < 2 ^ 62 → l' < 2 ^ 62 → Nat.gcd g l' = Nat.gcd (bs rw n).1 (bs rw n).2.1 → (∀ c, c ≠ 259 → Ix c = I c) → (∀ i, i ≠ 25 → Ix 259 i = I 259 i) → (∀ c, c ≠ 259 → Jx c = J c) → Jx 259 23 = lN (bs rw n).1 → Jx 259 24 = lN (bs rw n).2.1 → Ix 259 25 = nI (bs rw n).2.2 → zz_G mX10_findBound (d + 2) 0 115 [some (.ref 259), some (.int (nI l)), some (.long (lN g)), none, some (.long (lN l')), none, z6, none] [] M Ix Jx Q := by
    intro w
    induction w using Nat.strongRecOn with
    | _ w ih =>
      intro g l' Ix Jx z6 hw hg hl' hgcd f1 f2 f3 f4 f5 f6
      refine zz_lload rfl dX10_findBound_115 ?_
      refine zz_lconst (v := 0) (by decide) dX10_findBound_117 ?_
      refine zz_lcmp dX10_findBound_118 ?_
      try dsimp only [zz_s1, zz_s2, zz_kill, zz_ent, zz_fl, List.set_cons_zero, List.set_cons_succ, List.getElem?_cons_zero, List.getElem?_cons_succ, Option.toList_some, Option.toList_none, List.cons_append, List.nil_append, List.append_nil, List.length_cons, List.length_nil, List.replicate_succ, List.replicate_zero, Nat.reduceAdd, Nat.reduceSub]
      refine zz_if_eq (tgt := 138) dX10_findBound_119 (by decide) (fun h => ?_) (fun h => ?_)
      · have e0 : l' = 0 := by
          have := (cmp_eq.mp h)
          exact (pk_lEQ (b := 0) (by omega) (by decide)).mp this
        subst e0
        rw [Nat.gcd_zero_right] at hgcd
        have hgp : 0 < g := by rw [hgcd]; exact Nat.gcd_pos_of_pos_right _ hpn.1
        have ne0 : ¬ lN g = 0 := fun q => by have := (pk_lEQ (b := 0) (by omega) (by decide)).mp q; omega
        refine zz_aload_n rfl dX10_findBound_138 ?_
        refine zz_dup rfl dX10_findBound_139 ?_
        refine zz_getl dX10_findBound_140 fX10_223 rfl (os_259 hO) ?_
        refine zz_lload_n rfl dX10_findBound_143 ?_
        refine zz_ldiv ne0 dX10_findBound_144 ?_
        refine zz_putl dX10_findBound_145 fX10_223 rfl (fun q h => by cases h; rfl) (os_259 hO) ?_
        refine zz_aload_n rfl dX10_findBound_148 ?_
        refine zz_dup rfl dX10_findBound_149 ?_
        refine zz_getl dX10_findBound_150 fX10_219 rfl (os_259 hO) ?_
        refine zz_lload_n rfl dX10_findBound_153 ?_
        refine zz_ldiv ne0 dX10_findBound_154 ?_
        refine zz_putl dX10_findBound_155 fX10_219 rfl (fun q h => by cases h; rfl) (os_259 hO) ?_
        refine zz_return dX10_findBound_158 rfl ?_
        rw [f4, pk_lDiv (by omega) hgp (by omega)]
        rw [show zz_uj Jx 259 23 (lN ((bs rw n).1 / g)) 259 24 = lN (bs rw n).2.1 from by rw [zz_uj_at, pk_uLn (by decide)]; exact f5, pk_lDiv (by omega) hgp (by omega)]
        rw [hgcd]
        refine hQ _ _ f1 f2 (fun c c1 => ?_) ?_ ?_ f6
        · rw [zz_uj_ne _ _ _ c1, zz_uj_ne _ _ _ c1]; exact f3 c c1
        · rw [zz_uj_at, pk_uLn (by decide), zz_uj_at, pk_uLs]
        · rw [zz_uj_at, pk_uLs]
      · skip
        have e0 : 0 < l' := Nat.pos_of_ne_zero fun q => h (cmp_eq.mpr (by rw [q]; rfl))
        have ne0 : ¬ lN l' = 0 := fun q => by have := (pk_lEQ (b := 0) (by omega) (by decide)).mp q; omega
        refine zz_lload_n rfl dX10_findBound_122 ?_
        refine zz_lload rfl dX10_findBound_123 ?_
        refine zz_lrem ne0 dX10_findBound_125 ?_
        refine zz_lstore dX10_findBound_126 (by decide) ?_
        refine zz_lload rfl dX10_findBound_128 ?_
        refine zz_lstore_n dX10_findBound_130 (by decide) ?_
        refine zz_lload rfl dX10_findBound_131 ?_
        refine zz_lstore dX10_findBound_133 (by decide) ?_
        refine zz_goto (tgt := 115) dX10_findBound_135 (by decide) ?_
        try dsimp only [zz_s1, zz_s2, zz_kill, zz_ent, zz_fl, List.set_cons_zero, List.set_cons_succ, List.getElem?_cons_zero, List.getElem?_cons_succ, Option.toList_some, Option.toList_none, List.cons_append, List.nil_append, List.append_nil, List.length_cons, List.length_nil, List.replicate_succ, List.replicate_zero, Nat.reduceAdd, Nat.reduceSub]
        rw [show jv_lrem (lN g) (lN l') = lN (g % l') from pk_lRem (by omega) e0 (by omega)]
        have hm := Nat.mod_lt g e0
        exact ih (g % l') (by omega) l' (g % l') Ix Jx _ rfl hl' (by omega) (by rw [← gcd_step]; exact hgcd) f1 f2 f3 f4 f5 f6
  have loop : ∀ (q a : Nat) (Ix : zz_I) (Jx : zz_J) (z3 z5 : Option Value), a + q = n → (∀ c, c ≠ 259 → Ix c = I c) → (∀ i, i ≠ 25 → Ix 259 i = I 259 i) → (∀ c, c ≠ 259 → Jx c = J c) → (a = 0 → Ix 259 25 = -1) → (1 ≤ a → Jx 259 23 = lN (bs rw a).1 ∧ Jx 259 24 = lN (bs rw a).2.1 ∧ Ix 259 25 = nI (bs rw a).2.2) → zz_G mX10_findBound (d + 2) 0 7 [some (.ref 259), some (.int (nI l)), some (.int (nI a)), z3, none, z5, none, none] [] M Ix Jx Q := by
    intro q
    induction q with
    | zero =>
      intro a Ix Jx z3 z5 ha f1 f2 f3 f4 f5
      have ea : a = n := by omega
      subst ea
      obtain ⟨p1, p2, p3⟩ := f5 hn1
      refine zz_iload_n rfl dX10_findBound_7 ?_
      refine zz_aload_n rfl dX10_findBound_8 ?_
      refine zz_getr dX10_findBound_9 fX10_9 (fun _ _ _ _ => rfl) (os_259 hO) (or_259_0 hO) ?_
      refine zz_iload_n rfl dX10_findBound_12 ?_
      refine zz_iald dX10_findBound_13 (os_260 hO) v1 ?_
      try dsimp only [zz_s1, zz_s2, zz_kill, zz_ent, zz_fl, List.set_cons_zero, List.set_cons_succ, List.getElem?_cons_zero, List.getElem?_cons_succ, Option.toList_some, Option.toList_none, List.cons_append, List.nil_append, List.append_nil, List.length_cons, List.length_nil, List.replicate_succ, List.replicate_zero, Nat.reduceAdd, Nat.reduceSub]
      rw [cl1, show Ix 260 l = nI a by rw [f1 260 (by decide)]; exact hc.2.1]
      refine zz_icmp_ge (tgt := 104) dX10_findBound_14 (by decide) (fun h3 => ?_) (fun h3 => ?_)
      · cases z3 with
        | none =>
          refine zz_aload_n rfl dX10_findBound_104 ?_
          refine zz_getl dX10_findBound_105 fX10_223 rfl (os_259 hO) ?_
          refine zz_lstore_n dX10_findBound_108 (by decide) ?_
          refine zz_aload_n rfl dX10_findBound_109 ?_
          refine zz_getl dX10_findBound_110 fX10_219 rfl (os_259 hO) ?_
          refine zz_lstore dX10_findBound_113 (by decide) ?_
          try dsimp only [zz_s1, zz_s2, zz_kill, zz_ent, zz_fl, List.set_cons_zero, List.set_cons_succ, List.getElem?_cons_zero, List.getElem?_cons_succ, Option.toList_some, Option.toList_none, List.cons_append, List.nil_append, List.append_nil, List.length_cons, List.length_nil, List.replicate_succ, List.replicate_zero, Nat.reduceAdd, Nat.reduceSub]
          rw [p1, p2]
          cases z5 with
          | none => exact euc _ _ _ Ix Jx _ rfl (by omega) (by omega) rfl f1 f2 f3 p1 p2 p3
          | some v5 => cases v5 <;> exact euc _ _ _ Ix Jx _ rfl (by omega) (by omega) rfl f1 f2 f3 p1 p2 p3
        | some v3 =>
          cases v3 <;> (skip
                        refine zz_aload_n rfl dX10_findBound_104 ?_
                        refine zz_getl dX10_findBound_105 fX10_223 rfl (os_259 hO) ?_
                        refine zz_lstore_n dX10_findBound_108 (by decide) ?_
                        refine zz_aload_n rfl dX10_findBound_109 ?_
                        refine zz_getl dX10_findBound_110 fX10_219 rfl (os_259 hO) ?_
                        refine zz_lstore dX10_findBound_113 (by decide) ?_
                        try dsimp only [zz_s1, zz_s2, zz_kill, zz_ent, zz_fl, List.set_cons_zero, List.set_cons_succ, List.getElem?_cons_zero, List.getElem?_cons_succ, Option.toList_some, Option.toList_none, List.cons_append, List.nil_append, List.append_nil, List.length_cons, List.length_nil, List.replicate_succ, List.replicate_zero, Nat.reduceAdd, Nat.reduceSub]
                        rw [p1, p2]
                        cases z5 with
                        | none => exact euc _ _ _ Ix Jx _ rfl (by omega) (by omega) rfl f1 f2 f3 p1 p2 p3
                        | some v5 => cases v5 <;> exact euc _ _ _ Ix Jx _ rfl (by omega) (by omega) rfl f1 f2 f3 p1 p2 p3)
      · exact absurd (nI_le (Nat.le_refl _) (by omega)) h3
    | succ q ih =>
      intro a Ix Jx z3 z5 ha f1 f2 f3 f4 f5
      have hcx := ML_of (I' := Ix) (fun c c1 c2 => f1 c (by omega)) hc
      have hb := bs_le hr a (by omega)
      have o1 := ov_le hr (a := a) (by omega)
      have u1 := jt_nI hr (a := a) (by omega)
      have hpos := u1.2.2 (hok a (by omega))
      have iA : (nI a = -1 ∧ a = 24) ∨ (a < 24 ∧ nI a = nI a) := Or.inr ⟨by omega, rfl⟩
      have iH : ((-1 : Int32) = -1 ∧ 24 = 24) ∨ (24 < 24 ∧ (-1 : Int32) = nI 24) := Or.inl ⟨rfl, rfl⟩
      have b1 : (bs rw a).1 * un rw a ≤ 29160000 * 29160000 := Nat.mul_le_mul hb.1 u1.2.1
      have b2 : ov rw a * (bs rw a).2.1 ≤ 29160000 * 29160000 := Nat.mul_le_mul o1 hb.2.1
      refine zz_iload_n rfl dX10_findBound_7 ?_
      refine zz_aload_n rfl dX10_findBound_8 ?_
      refine zz_getr dX10_findBound_9 fX10_9 (fun _ _ _ _ => rfl) (os_259 hO) (or_259_0 hO) ?_
      refine zz_iload_n rfl dX10_findBound_12 ?_
      refine zz_iald dX10_findBound_13 (os_260 hO) v1 ?_
      try dsimp only [zz_s1, zz_s2, zz_kill, zz_ent, zz_fl, List.set_cons_zero, List.set_cons_succ, List.getElem?_cons_zero, List.getElem?_cons_succ, Option.toList_some, Option.toList_none, List.cons_append, List.nil_append, List.append_nil, List.length_cons, List.length_nil, List.replicate_succ, List.replicate_zero, Nat.reduceAdd, Nat.reduceSub]
      rw [cl1, show Ix 260 l = nI n by rw [f1 260 (by decide)]; exact hc.2.1]
      refine zz_icmp_ge (tgt := 104) dX10_findBound_14 (by decide) (fun h3 => ?_) (fun h3 => ?_)
      · exact absurd h3 (nI_ge (by omega) (by omega))
      · skip
        refine zz_aload_n rfl dX10_findBound_17 ?_
        refine zz_iload_n rfl dX10_findBound_18 ?_
        refine zz_iload_n rfl dX10_findBound_19 ?_
        refine zz_iload_n rfl dX10_findBound_20 ?_
        try dsimp only [zz_s1, zz_s2, zz_kill, zz_ent, zz_fl, List.set_cons_zero, List.set_cons_succ, List.getElem?_cons_zero, List.getElem?_cons_succ, Option.toList_some, Option.toList_none, List.cons_append, List.nil_append, List.append_nil, List.length_cons, List.length_nil, List.replicate_succ, List.replicate_zero, Nat.reduceAdd, Nat.reduceSub]
        refine zz_cV3 dX10_findBound_21 lX10_212 rfl (os_259 hO) rfl rfl (Nat.le_of_ble_eq_true rfl) (Nat.le_of_ble_eq_true rfl) ?_
        refine sp_X10_product d hO hl hcx (x := a) (z := a) (by omega) (by omega) iA iA ?_
        try dsimp only [zz_s1, zz_s2, zz_kill, zz_ent, zz_fl, List.set_cons_zero, List.set_cons_succ, List.getElem?_cons_zero, List.getElem?_cons_succ, Option.toList_some, Option.toList_none, List.cons_append, List.nil_append, List.append_nil, List.length_cons, List.length_nil, List.replicate_succ, List.replicate_zero, Nat.reduceAdd, Nat.reduceSub]
        refine zz_i2l dX10_findBound_24 ?_
        refine zz_aload_n rfl dX10_findBound_25 ?_
        refine zz_iload_n rfl dX10_findBound_26 ?_
        refine zz_iconst (v := (-1)) (by decide) dX10_findBound_27 ?_
        refine zz_iconst (v := (-1)) (by decide) dX10_findBound_28 ?_
        try dsimp only [zz_s1, zz_s2, zz_kill, zz_ent, zz_fl, List.set_cons_zero, List.set_cons_succ, List.getElem?_cons_zero, List.getElem?_cons_succ, Option.toList_some, Option.toList_none, List.cons_append, List.nil_append, List.append_nil, List.length_cons, List.length_nil, List.replicate_succ, List.replicate_zero, Nat.reduceAdd, Nat.reduceSub]
        refine zz_cV3 dX10_findBound_29 lX10_212 rfl (os_259 hO) rfl rfl (Nat.le_of_ble_eq_true rfl) (Nat.le_of_ble_eq_true rfl) ?_
        refine sp_X10_product d hO hl hcx (x := 24) (z := 24) (by decide) (by decide) iH iH ?_
        try dsimp only [zz_s1, zz_s2, zz_kill, zz_ent, zz_fl, List.set_cons_zero, List.set_cons_succ, List.getElem?_cons_zero, List.getElem?_cons_succ, Option.toList_some, Option.toList_none, List.cons_append, List.nil_append, List.append_nil, List.length_cons, List.length_nil, List.replicate_succ, List.replicate_zero, Nat.reduceAdd, Nat.reduceSub]
        refine zz_i2l dX10_findBound_32 ?_
        refine zz_lmul dX10_findBound_33 ?_
        refine zz_lstore_n dX10_findBound_34 (by decide) ?_
        refine zz_aload_n rfl dX10_findBound_35 ?_
        refine zz_iload_n rfl dX10_findBound_36 ?_
        refine zz_iload_n rfl dX10_findBound_37 ?_
        refine zz_iconst (v := (-1)) (by decide) dX10_findBound_38 ?_
        try dsimp only [zz_s1, zz_s2, zz_kill, zz_ent, zz_fl, List.set_cons_zero, List.set_cons_succ, List.getElem?_cons_zero, List.getElem?_cons_succ, Option.toList_some, Option.toList_none, List.cons_append, List.nil_append, List.append_nil, List.length_cons, List.length_nil, List.replicate_succ, List.replicate_zero, Nat.reduceAdd, Nat.reduceSub]
        refine zz_cV3 dX10_findBound_39 lX10_212 rfl (os_259 hO) rfl rfl (Nat.le_of_ble_eq_true rfl) (Nat.le_of_ble_eq_true rfl) ?_
        refine sp_X10_product d hO hl hcx (x := a) (z := 24) (by omega) (by decide) iA iH ?_
        try dsimp only [zz_s1, zz_s2, zz_kill, zz_ent, zz_fl, List.set_cons_zero, List.set_cons_succ, List.getElem?_cons_zero, List.getElem?_cons_succ, Option.toList_some, Option.toList_none, List.cons_append, List.nil_append, List.append_nil, List.length_cons, List.length_nil, List.replicate_succ, List.replicate_zero, Nat.reduceAdd, Nat.reduceSub]
        refine zz_i2l dX10_findBound_42 ?_
        refine zz_aload_n rfl dX10_findBound_43 ?_
        refine zz_iload_n rfl dX10_findBound_44 ?_
        refine zz_iload_n rfl dX10_findBound_45 ?_
        refine zz_iconst (v := (-1)) (by decide) dX10_findBound_46 ?_
        try dsimp only [zz_s1, zz_s2, zz_kill, zz_ent, zz_fl, List.set_cons_zero, List.set_cons_succ, List.getElem?_cons_zero, List.getElem?_cons_succ, Option.toList_some, Option.toList_none, List.cons_append, List.nil_append, List.append_nil, List.length_cons, List.length_nil, List.replicate_succ, List.replicate_zero, Nat.reduceAdd, Nat.reduceSub]
        refine zz_cV3 dX10_findBound_47 lX10_212 rfl (os_259 hO) rfl rfl (Nat.le_of_ble_eq_true rfl) (Nat.le_of_ble_eq_true rfl) ?_
        refine sp_X10_product d hO hl hcx (x := a) (z := 24) (by omega) (by decide) iA iH ?_
        try dsimp only [zz_s1, zz_s2, zz_kill, zz_ent, zz_fl, List.set_cons_zero, List.set_cons_succ, List.getElem?_cons_zero, List.getElem?_cons_succ, Option.toList_some, Option.toList_none, List.cons_append, List.nil_append, List.append_nil, List.length_cons, List.length_nil, List.replicate_succ, List.replicate_zero, Nat.reduceAdd, Nat.reduceSub]
        refine zz_i2l dX10_findBound_50 ?_
        refine zz_lmul dX10_findBound_51 ?_
        refine zz_lstore dX10_findBound_52 (by decide) ?_
        refine zz_aload_n rfl dX10_findBound_54 ?_
        refine zz_geti dX10_findBound_55 fX10_216 rfl (os_259 hO) ?_
        refine zz_iconst (v := (-1)) (by decide) dX10_findBound_58 ?_
        try dsimp only [zz_s1, zz_s2, zz_kill, zz_ent, zz_fl, List.set_cons_zero, List.set_cons_succ, List.getElem?_cons_zero, List.getElem?_cons_succ, Option.toList_some, Option.toList_none, List.cons_append, List.nil_append, List.append_nil, List.length_cons, List.length_nil, List.replicate_succ, List.replicate_zero, Nat.reduceAdd, Nat.reduceSub]
        rw [(sq_nI hr (show a < 25 by omega)).1, (sq_nI hr (show 24 < 25 by decide)).1, i2l_mul (by have := (sq_nI hr (show a < 25 by omega)).2; omega) (by have := (sq_nI hr (show 24 < 25 by decide)).2; omega), jt_lN hr (by omega)]
        rw [show (prz rw a a 6).toNat * (prz rw 24 24 6).toNat = ov rw a from rfl]
        have take : (a = 0 ∨ (1 ≤ a ∧ (bs rw a).1 * un rw a < ov rw a * (bs rw a).2.1)) → zz_G mX10_findBound (d + 2) 0 82 [some (.ref 259), some (.int (nI l)), some (.int (nI a)), some (.long (lN (ov rw a))), none, some (.long (lN (un rw a))), none, none] [] M Ix Jx Q := by
          intro hcase
          have hb1 : bs rw (a + 1) = (ov rw a, un rw a, a) := by
            show (if _ then _ else _) = _
            rw [if_pos]
            rcases hcase with e | ⟨-, e⟩
            · subst e
              show 0 * _ < _ * 1
              omega
            · exact e
          refine zz_aload_n rfl dX10_findBound_82 ?_
          refine zz_iload_n rfl dX10_findBound_83 ?_
          refine zz_puti dX10_findBound_84 fX10_216 rfl (fun q h => by cases h; rfl) (os_259 hO) ?_
          refine zz_aload_n rfl dX10_findBound_87 ?_
          refine zz_lload_n rfl dX10_findBound_88 ?_
          refine zz_putl dX10_findBound_89 fX10_223 rfl (fun q h => by cases h; rfl) (os_259 hO) ?_
          refine zz_aload_n rfl dX10_findBound_92 ?_
          refine zz_lload rfl dX10_findBound_93 ?_
          refine zz_putl dX10_findBound_95 fX10_219 rfl (fun q h => by cases h; rfl) (os_259 hO) ?_
          refine zz_iinc dX10_findBound_98 rfl (congrArg (HAdd.hAdd _) (show Int32.ofInt 1 = 1 by decide)) (by decide) ?_
          refine zz_goto (tgt := 7) dX10_findBound_101 (by decide) ?_
          try dsimp only [zz_s1, zz_s2, zz_kill, zz_ent, zz_fl, List.set_cons_zero, List.set_cons_succ, List.getElem?_cons_zero, List.getElem?_cons_succ, Option.toList_some, Option.toList_none, List.cons_append, List.nil_append, List.append_nil, List.length_cons, List.length_nil, List.replicate_succ, List.replicate_zero, Nat.reduceAdd, Nat.reduceSub]
          rw [nI_1]
          refine ih (a + 1) _ _ _ _ (by omega) (fun c c1 => ?_) (fun i i1 => ?_) (fun c c1 => ?_) (fun z => by omega) (fun _ => ⟨?_, ?_, ?_⟩)
          · rw [zz_ui_ne _ _ _ c1]; exact f1 c c1
          · rw [zz_ui_at, pk_un i1]; exact f2 i i1
          · rw [zz_uj_ne _ _ _ c1, zz_uj_ne _ _ _ c1]; exact f3 c c1
          · rw [hb1, zz_uj_at, pk_uLn (by decide), zz_uj_at, pk_uLs]
          · rw [hb1, zz_uj_at, pk_uLs]
          · rw [hb1, zz_ui_at, pk_us]
        rcases Nat.eq_zero_or_pos a with e | e
        · rw [f4 e]
          refine zz_icmp_eq (tgt := 82) dX10_findBound_59 (by decide) (fun h4 => ?_) (fun h4 => ?_)
          · exact take (Or.inl e)
          · exact absurd rfl h4
        · obtain ⟨p1, p2, p3⟩ := f5 e
          rw [p3]
          refine zz_icmp_eq (tgt := 82) dX10_findBound_59 (by decide) (fun h4 => ?_) (fun h4 => ?_)
          · have := congrArg Int32.toInt h4
            rw [nI_toInt (by omega)] at this
            have e1 : (-1 : Int32).toInt = -1 := by decide
            omega
          · skip
            refine zz_lload_n rfl dX10_findBound_62 ?_
            refine zz_aload_n rfl dX10_findBound_63 ?_
            refine zz_getl dX10_findBound_64 fX10_219 rfl (os_259 hO) ?_
            refine zz_lmul dX10_findBound_67 ?_
            refine zz_aload_n rfl dX10_findBound_68 ?_
            refine zz_getl dX10_findBound_69 fX10_223 rfl (os_259 hO) ?_
            refine zz_lload rfl dX10_findBound_72 ?_
            refine zz_lmul dX10_findBound_74 ?_
            refine zz_lcmp dX10_findBound_75 ?_
            try dsimp only [zz_s1, zz_s2, zz_kill, zz_ent, zz_fl, List.set_cons_zero, List.set_cons_succ, List.getElem?_cons_zero, List.getElem?_cons_succ, Option.toList_some, Option.toList_none, List.cons_append, List.nil_append, List.append_nil, List.length_cons, List.length_nil, List.replicate_succ, List.replicate_zero, Nat.reduceAdd, Nat.reduceSub]
            rw [p1, p2, lN_mul, lN_mul]
            refine zz_if_gt (tgt := 82) dX10_findBound_76 (by decide) (fun h5 => ?_) (fun h5 => ?_)
            · refine take (Or.inr ⟨e, ?_⟩)
              exact (pk_lLT (by omega) (by omega)).mp (cmp_gt.mp h5)
            · skip
              refine zz_goto (tgt := 98) dX10_findBound_79 (by decide) ?_
              refine zz_iinc dX10_findBound_98 rfl (congrArg (HAdd.hAdd _) (show Int32.ofInt 1 = 1 by decide)) (by decide) ?_
              refine zz_goto (tgt := 7) dX10_findBound_101 (by decide) ?_
              try dsimp only [zz_s1, zz_s2, zz_kill, zz_ent, zz_fl, List.set_cons_zero, List.set_cons_succ, List.getElem?_cons_zero, List.getElem?_cons_succ, Option.toList_some, Option.toList_none, List.cons_append, List.nil_append, List.append_nil, List.length_cons, List.length_nil, List.replicate_succ, List.replicate_zero, Nat.reduceAdd, Nat.reduceSub]
              rw [nI_1]
              have hb1 : bs rw (a + 1) = bs rw a := by
                show (if _ then _ else _) = _
                rw [if_neg]
                intro z
                exact h5 (cmp_gt.mpr ((pk_lLT (by omega) (by omega)).mpr z))
              exact ih (a + 1) Ix Jx _ _ (by omega) f1 f2 f3 (fun z => by omega) (fun _ => by rw [hb1]; exact ⟨p1, p2, p3⟩)
  refine loop n 0 _ J _ _ (by omega) (fun c c1 => zz_ui_ne _ _ _ c1) (fun i i1 => by rw [zz_ui_at, pk_un i1]) (fun _ _ => rfl) (fun _ => by rw [zz_ui_at, pk_us]) (fun q => absurd q (by decide))
theorem sp_X9_bound (d : Nat) (hO : OK M) {l w : Int32} {n : Nat → Nat} {kd ag : Nat → Int32} {E : Nat → Nat → Nat → Bool} {sg : Nat → Nat → Int32} {rw : Nat → Nat → Nat → Int32} (hn : ∀ j, j < 8 → 1 ≤ n j ∧ n j ≤ 24) (hr : ∀ j, j < 8 → rok (rw j)) (hC : ∀ j, j < 8 → CL I j (n j) (kd j) (ag j) (E j) (sg j) (rw j))
    (h1 : ∀ j, j < 8 → l = nI j → vp_in w 3 → ff (n j) (E j) (rw j) = -1 → ∀ I' : zz_I, (∀ c, c ≠ 16 → I' c = I c) → Q (some (.int (if w = 0 then nI ((bs (rw j) (n j)).1 / Nat.gcd (bs (rw j) (n j)).1 (bs (rw j) (n j)).2.1) else if w = 1 then nI ((bs (rw j) (n j)).2.1 / Nat.gcd (bs (rw j) (n j)).1 (bs (rw j) (n j)).2.1) else nI (bs (rw j) (n j)).2.2))) M I' J)
    (h2 : ∀ j, j < 8 → l = nI j → vp_in w 3 → ¬ ff (n j) (E j) (rw j) = -1 → Q (some (.int (-1))) M I J) (h3 : ¬ (vp_in l 8 ∧ vp_in w 3) → Q (some (.int (-2))) M I J) : zz_D mX9_bound (d + 3) [.ref 1, .int l, .int w] M I J Q := by
  refine zz_D_of rfl (Nat.le_of_ble_eq_true rfl) ?_
  try dsimp only [zz_s1, zz_s2, zz_kill, zz_ent, zz_fl, List.set_cons_zero, List.set_cons_succ, List.getElem?_cons_zero, List.getElem?_cons_succ, Option.toList_some, Option.toList_none, List.cons_append, List.nil_append, List.append_nil, List.length_cons, List.length_nil, List.replicate_succ, List.replicate_zero, Nat.reduceAdd, Nat.reduceSub]
  refine zz_aload_n rfl dX9_bound_0 ?_
  refine zz_iload_n rfl dX9_bound_1 ?_
  try dsimp only [zz_s1, zz_s2, zz_kill, zz_ent, zz_fl, List.set_cons_zero, List.set_cons_succ, List.getElem?_cons_zero, List.getElem?_cons_succ, Option.toList_some, Option.toList_none, List.cons_append, List.nil_append, List.append_nil, List.length_cons, List.length_nil, List.replicate_succ, List.replicate_zero, Nat.reduceAdd, Nat.reduceSub]
  refine zz_cV1 dX9_bound_2 lX9_100 rfl (os_1 hO) rfl rfl (Nat.le_of_ble_eq_true rfl) (Nat.le_of_ble_eq_true rfl) ?_
  refine sp_lineAt (d + 2) hO (fun j hj e => ?_) (fun hv => ?_)
  try dsimp only [zz_s1, zz_s2, zz_kill, zz_ent, zz_fl, List.set_cons_zero, List.set_cons_succ, List.getElem?_cons_zero, List.getElem?_cons_succ, Option.toList_some, Option.toList_none, List.cons_append, List.nil_append, List.append_nil, List.length_cons, List.length_nil, List.replicate_succ, List.replicate_zero, Nat.reduceAdd, Nat.reduceSub]
  · skip
    refine zz_astore_n dX9_bound_5 (by decide) ?_
    refine zz_aload_n rfl dX9_bound_6 ?_
    try dsimp only [zz_s1, zz_s2, zz_kill, zz_ent, zz_fl, List.set_cons_zero, List.set_cons_succ, List.getElem?_cons_zero, List.getElem?_cons_succ, Option.toList_some, Option.toList_none, List.cons_append, List.nil_append, List.append_nil, List.length_cons, List.length_nil, List.replicate_succ, List.replicate_zero, Nat.reduceAdd, Nat.reduceSub]
    refine zz_ifnull dX9_bound_7 ?_
    try dsimp only [zz_s1, zz_s2, zz_kill, zz_ent, zz_fl, List.set_cons_zero, List.set_cons_succ, List.getElem?_cons_zero, List.getElem?_cons_succ, Option.toList_some, Option.toList_none, List.cons_append, List.nil_append, List.append_nil, List.length_cons, List.length_nil, List.replicate_succ, List.replicate_zero, Nat.reduceAdd, Nat.reduceSub]
    refine zz_iload_n rfl dX9_bound_10 ?_
    try dsimp only [zz_s1, zz_s2, zz_kill, zz_ent, zz_fl, List.set_cons_zero, List.set_cons_succ, List.getElem?_cons_zero, List.getElem?_cons_succ, Option.toList_some, Option.toList_none, List.cons_append, List.nil_append, List.append_nil, List.length_cons, List.length_nil, List.replicate_succ, List.replicate_zero, Nat.reduceAdd, Nat.reduceSub]
    refine zz_if_lt (tgt := 19) dX9_bound_11 (by decide) (fun c1 => ?_) (fun c1 => ?_)
    · refine zz_bipush (v := (-2)) (by decide) dX9_bound_19 ?_
      refine zz_ireturn dX9_bound_21 rfl (by first | rfl | decide | assumption) ?_
      exact h3 (fun q => q.2 (Or.inl c1))
    refine zz_iload_n rfl dX9_bound_14 ?_
    refine zz_iconst (v := 2) (by decide) dX9_bound_15 ?_
    try dsimp only [zz_s1, zz_s2, zz_kill, zz_ent, zz_fl, List.set_cons_zero, List.set_cons_succ, List.getElem?_cons_zero, List.getElem?_cons_succ, Option.toList_some, Option.toList_none, List.cons_append, List.nil_append, List.append_nil, List.length_cons, List.length_nil, List.replicate_succ, List.replicate_zero, Nat.reduceAdd, Nat.reduceSub]
    refine zz_icmp_le (tgt := 22) dX9_bound_16 (by decide) (fun c2 => ?_) (fun c2 => ?_)
    rotate_left
    · refine zz_bipush (v := (-2)) (by decide) dX9_bound_19 ?_
      refine zz_ireturn dX9_bound_21 rfl (by first | rfl | decide | assumption) ?_
      refine h3 (fun q => c2 ?_)
      have := (vp_in_iff.mp q.2).2
      rw [Int32.le_iff_toInt_le]
      have e2 : (2 : Int32).toInt = 2 := rfl
      omega
    have hw : vp_in w 3 := vp_in_iff.mpr (by
      rw [Int32.lt_iff_toInt_lt] at c1
      rw [Int32.le_iff_toInt_le] at c2
      have e0 : (0 : Int32).toInt = 0 := rfl
      have e2 : (2 : Int32).toInt = 2 := rfl
      omega)
    refine zz_aload_n rfl dX9_bound_22 ?_
    refine zz_getr dX9_bound_23 fX9_50 (fun _ _ _ _ => rfl) (os_1 hO) (or_1_6 hO) ?_
    refine zz_aload_n rfl dX9_bound_26 ?_
    try dsimp only [zz_s1, zz_s2, zz_kill, zz_ent, zz_fl, List.set_cons_zero, List.set_cons_succ, List.getElem?_cons_zero, List.getElem?_cons_succ, Option.toList_some, Option.toList_none, List.cons_append, List.nil_append, List.append_nil, List.length_cons, List.length_nil, List.replicate_succ, List.replicate_zero, Nat.reduceAdd, Nat.reduceSub]
    refine zz_cV1 dX9_bound_27 lX9_226 rfl (os_16 hO) rfl rfl (Nat.le_of_ble_eq_true rfl) (Nat.le_of_ble_eq_true rfl) ?_
    refine sp_measure d hO hj (hn j hj).1 (hn j hj).2 (hr j hj) (hC j hj) (fun hf I' g1 g2 g3 g4 => ?_) (fun hf => ?_)
    try dsimp only [zz_s1, zz_s2, zz_kill, zz_ent, zz_fl, List.set_cons_zero, List.set_cons_succ, List.getElem?_cons_zero, List.getElem?_cons_succ, Option.toList_some, Option.toList_none, List.cons_append, List.nil_append, List.append_nil, List.length_cons, List.length_nil, List.replicate_succ, List.replicate_zero, Nat.reduceAdd, Nat.reduceSub]
    · have h1 := h1 j hj e hw hf I' g1
      refine zz_if_ne (tgt := 35) dX9_bound_30 (by decide) (fun c3 => ?_) (fun c3 => ?_)
      · refine zz_iload_n rfl dX9_bound_35 ?_
        try dsimp only [zz_s1, zz_s2, zz_kill, zz_ent, zz_fl, List.set_cons_zero, List.set_cons_succ, List.getElem?_cons_zero, List.getElem?_cons_succ, Option.toList_some, Option.toList_none, List.cons_append, List.nil_append, List.append_nil, List.length_cons, List.length_nil, List.replicate_succ, List.replicate_zero, Nat.reduceAdd, Nat.reduceSub]
        refine zz_if_ne (tgt := 47) dX9_bound_36 (by decide) (fun c4 => ?_) (fun c4 => ?_)
        · rw [if_neg c4] at h1
          refine zz_iload_n rfl dX9_bound_47 ?_
          refine zz_iconst (v := 1) (by decide) dX9_bound_48 ?_
          try dsimp only [zz_s1, zz_s2, zz_kill, zz_ent, zz_fl, List.set_cons_zero, List.set_cons_succ, List.getElem?_cons_zero, List.getElem?_cons_succ, Option.toList_some, Option.toList_none, List.cons_append, List.nil_append, List.append_nil, List.length_cons, List.length_nil, List.replicate_succ, List.replicate_zero, Nat.reduceAdd, Nat.reduceSub]
          refine zz_icmp_ne (tgt := 62) dX9_bound_49 (by decide) (fun c5 => ?_) (fun c5 => ?_)
          · rw [if_neg c5] at h1
            refine zz_aload_n rfl dX9_bound_62 ?_
            refine zz_getr dX9_bound_63 fX9_50 (fun _ _ _ _ => rfl) (os_1 hO) (or_1_6 hO) ?_
            refine zz_geti dX9_bound_66 fX9_236 rfl (os_16 hO) ?_
            refine zz_ireturn dX9_bound_69 rfl (by first | rfl | decide | assumption) ?_
            rw [g4]; exact h1
          · skip
            rw [if_pos c5] at h1
            refine zz_aload_n rfl dX9_bound_52 ?_
            refine zz_getr dX9_bound_53 fX9_50 (fun _ _ _ _ => rfl) (os_1 hO) (or_1_6 hO) ?_
            refine zz_geti dX9_bound_56 fX9_233 rfl (os_16 hO) ?_
            refine zz_goto (tgt := 69) dX9_bound_59 (by decide) ?_
            refine zz_ireturn dX9_bound_69 rfl (by first | rfl | decide | assumption) ?_
            rw [g3]; exact h1
        · skip
          rw [if_pos c4] at h1
          refine zz_aload_n rfl dX9_bound_39 ?_
          refine zz_getr dX9_bound_40 fX9_50 (fun _ _ _ _ => rfl) (os_1 hO) (or_1_6 hO) ?_
          refine zz_geti dX9_bound_43 fX9_230 rfl (os_16 hO) ?_
          refine zz_ireturn dX9_bound_46 rfl (by first | rfl | decide | assumption) ?_
          rw [g2]; exact h1
      · exact absurd c3 (by decide)
    · try dsimp only [zz_s1, zz_s2, zz_kill, zz_ent, zz_fl, List.set_cons_zero, List.set_cons_succ, List.getElem?_cons_zero, List.getElem?_cons_succ, Option.toList_some, Option.toList_none, List.cons_append, List.nil_append, List.append_nil, List.length_cons, List.length_nil, List.replicate_succ, List.replicate_zero, Nat.reduceAdd, Nat.reduceSub]
      refine zz_if_ne (tgt := 35) dX9_bound_30 (by decide) (fun c3 => ?_) (fun c3 => ?_)
      · exact absurd rfl c3
      · skip
        refine zz_iconst (v := (-1)) (by decide) dX9_bound_33 ?_
        refine zz_ireturn dX9_bound_34 rfl (by first | rfl | decide | assumption) ?_
        exact h2 j hj e hw hf
  · try dsimp only [zz_s1, zz_s2, zz_kill, zz_ent, zz_fl, List.set_cons_zero, List.set_cons_succ, List.getElem?_cons_zero, List.getElem?_cons_succ, Option.toList_some, Option.toList_none, List.cons_append, List.nil_append, List.append_nil, List.length_cons, List.length_nil, List.replicate_succ, List.replicate_zero, Nat.reduceAdd, Nat.reduceSub]
    refine zz_nstore_n dX9_bound_5 (by decide) ?_
    refine zz_nload_n rfl dX9_bound_6 ?_
    try dsimp only [zz_s1, zz_s2, zz_kill, zz_ent, zz_fl, List.set_cons_zero, List.set_cons_succ, List.getElem?_cons_zero, List.getElem?_cons_succ, Option.toList_some, Option.toList_none, List.cons_append, List.nil_append, List.append_nil, List.length_cons, List.length_nil, List.replicate_succ, List.replicate_zero, Nat.reduceAdd, Nat.reduceSub]
    refine zz_ifnullN (tgt := 19) dX9_bound_7 (by decide) ?_
    refine zz_bipush (v := (-2)) (by decide) dX9_bound_19 ?_
    refine zz_ireturn dX9_bound_21 rfl (by first | rfl | decide | assumption) ?_
    exact h3 (fun q => hv q.1)
theorem sp_X10_bound (d : Nat) (hO : OK M) {l w : Int32} {n : Nat → Nat} {kd ag : Nat → Int32} {E : Nat → Nat → Nat → Bool} {sg : Nat → Nat → Int32} {rw : Nat → Nat → Nat → Int32} (hn : ∀ j, j < 8 → 1 ≤ n j ∧ n j ≤ 24) (hr : ∀ j, j < 8 → rok (rw j)) (hC : ∀ j, j < 8 → ML I j (n j) (kd j) (ag j) (E j) (sg j) (rw j))
    (h1 : ∀ j, j < 8 → l = nI j → vp_in w 3 → ff (n j) (E j) (rw j) = -1 → ∀ (I' : zz_I) (J' : zz_J), (∀ c, c ≠ 259 → I' c = I c) → (∀ i, i ≠ 25 → I' 259 i = I 259 i) → (∀ c, c ≠ 259 → J' c = J c) → Q (some (.int (if w = 0 then nI ((bs (rw j) (n j)).1 / Nat.gcd (bs (rw j) (n j)).1 (bs (rw j) (n j)).2.1) else if w = 1 then nI ((bs (rw j) (n j)).2.1 / Nat.gcd (bs (rw j) (n j)).1 (bs (rw j) (n j)).2.1) else nI (bs (rw j) (n j)).2.2))) M I' J')
    (h2 : ∀ j, j < 8 → l = nI j → vp_in w 3 → ¬ ff (n j) (E j) (rw j) = -1 → Q (some (.int (-1))) M I J) (h3 : ¬ (vp_in l 8 ∧ vp_in w 3) → Q (some (.int (-2))) M I J) : zz_D mX10_bound (d + 3) [.ref 259, .int l, .int w] M I J Q := by
  refine zz_D_of rfl (Nat.le_of_ble_eq_true rfl) ?_
  try dsimp only [zz_s1, zz_s2, zz_kill, zz_ent, zz_fl, List.set_cons_zero, List.set_cons_succ, List.getElem?_cons_zero, List.getElem?_cons_succ, Option.toList_some, Option.toList_none, List.cons_append, List.nil_append, List.append_nil, List.length_cons, List.length_nil, List.replicate_succ, List.replicate_zero, Nat.reduceAdd, Nat.reduceSub]
  refine zz_iload_n rfl dX10_bound_0 ?_
  try dsimp only [zz_s1, zz_s2, zz_kill, zz_ent, zz_fl, List.set_cons_zero, List.set_cons_succ, List.getElem?_cons_zero, List.getElem?_cons_succ, Option.toList_some, Option.toList_none, List.cons_append, List.nil_append, List.append_nil, List.length_cons, List.length_nil, List.replicate_succ, List.replicate_zero, Nat.reduceAdd, Nat.reduceSub]
  refine zz_cS1 dX10_bound_1 lX10_85 rfl (Nat.le_of_ble_eq_true rfl) (Nat.le_of_ble_eq_true rfl) ?_
  refine sp_isLine (d + 1) (fun r0 hr0 => ?_)
  try dsimp only [zz_s1, zz_s2, zz_kill, zz_ent, zz_fl, List.set_cons_zero, List.set_cons_succ, List.getElem?_cons_zero, List.getElem?_cons_succ, Option.toList_some, Option.toList_none, List.cons_append, List.nil_append, List.append_nil, List.length_cons, List.length_nil, List.replicate_succ, List.replicate_zero, Nat.reduceAdd, Nat.reduceSub]
  refine zz_if_eq (tgt := 19) dX10_bound_4 (by decide) (fun q0 => ?_) (fun q0 => ?_)
  · refine zz_bipush (v := (-2)) (by decide) dX10_bound_19 ?_
    refine zz_ireturn dX10_bound_21 rfl (by first | rfl | decide | assumption) ?_
    exact h3 (fun q => hr0.f q0 q.1)
  obtain ⟨j, hj, rfl⟩ := vp_in_of (hr0.t q0) (by decide)
  refine zz_iload_n rfl dX10_bound_7 ?_
  refine zz_i2l dX10_bound_8 ?_
  refine zz_lconst (v := 0) (by decide) dX10_bound_9 ?_
  refine zz_ldc2 tX10_226 dX10_bound_10 ?_
  try dsimp only [zz_s1, zz_s2, zz_kill, zz_ent, zz_fl, List.set_cons_zero, List.set_cons_succ, List.getElem?_cons_zero, List.getElem?_cons_succ, Option.toList_some, Option.toList_none, List.cons_append, List.nil_append, List.append_nil, List.length_cons, List.length_nil, List.replicate_succ, List.replicate_zero, Nat.reduceAdd, Nat.reduceSub]
  refine zz_cS3 dX10_bound_13 lX10_81 rfl (Nat.le_of_ble_eq_true rfl) (Nat.le_of_ble_eq_true rfl) ?_
  refine sp_in (d + 2) (fun r1 hr1 => ?_)
  try dsimp only [zz_s1, zz_s2, zz_kill, zz_ent, zz_fl, List.set_cons_zero, List.set_cons_succ, List.getElem?_cons_zero, List.getElem?_cons_succ, Option.toList_some, Option.toList_none, List.cons_append, List.nil_append, List.append_nil, List.length_cons, List.length_nil, List.replicate_succ, List.replicate_zero, Nat.reduceAdd, Nat.reduceSub]
  have hr1 : bo r1 (vp_in w 3) := hr1.iff (by
    rw [vp_in_iff, Int64.le_iff_toInt_le, Int64.le_iff_toInt_le, i2l_int]
    show (0 : Int) ≤ w.toInt ∧ w.toInt ≤ 2 ↔ _
    omega)
  refine zz_if_ne (tgt := 22) dX10_bound_16 (by decide) (fun q1 => ?_) (fun q1 => ?_)
  rotate_left
  · refine zz_bipush (v := (-2)) (by decide) dX10_bound_19 ?_
    refine zz_ireturn dX10_bound_21 rfl (by first | rfl | decide | assumption) ?_
    exact h3 (fun q => hr1.f q1 q.2)
  have hw := hr1.t q1
  refine zz_aload_n rfl dX10_bound_22 ?_
  refine zz_iload_n rfl dX10_bound_23 ?_
  try dsimp only [zz_s1, zz_s2, zz_kill, zz_ent, zz_fl, List.set_cons_zero, List.set_cons_succ, List.getElem?_cons_zero, List.getElem?_cons_succ, Option.toList_some, Option.toList_none, List.cons_append, List.nil_append, List.append_nil, List.length_cons, List.length_nil, List.replicate_succ, List.replicate_zero, Nat.reduceAdd, Nat.reduceSub]
  refine zz_cV1 dX10_bound_24 lX10_228 rfl (os_259 hO) rfl rfl (Nat.le_of_ble_eq_true rfl) (Nat.le_of_ble_eq_true rfl) ?_
  refine sp_stands d hO hj (hn j hj).2 (hC j hj) ?_
  try dsimp only [zz_s1, zz_s2, zz_kill, zz_ent, zz_fl, List.set_cons_zero, List.set_cons_succ, List.getElem?_cons_zero, List.getElem?_cons_succ, Option.toList_some, Option.toList_none, List.cons_append, List.nil_append, List.append_nil, List.length_cons, List.length_nil, List.replicate_succ, List.replicate_zero, Nat.reduceAdd, Nat.reduceSub]
  refine zz_iconst (v := (-1)) (by decide) dX10_bound_27 ?_
  try dsimp only [zz_s1, zz_s2, zz_kill, zz_ent, zz_fl, List.set_cons_zero, List.set_cons_succ, List.getElem?_cons_zero, List.getElem?_cons_succ, Option.toList_some, Option.toList_none, List.cons_append, List.nil_append, List.append_nil, List.length_cons, List.length_nil, List.replicate_succ, List.replicate_zero, Nat.reduceAdd, Nat.reduceSub]
  refine zz_icmp_eq (tgt := 33) dX10_bound_28 (by decide) (fun q2 => ?_) (fun q2 => ?_)
  rotate_left
  · refine zz_iconst (v := (-1)) (by decide) dX10_bound_31 ?_
    refine zz_ireturn dX10_bound_32 rfl (by first | rfl | decide | assumption) ?_
    exact h2 j hj rfl hw q2
  refine zz_aload_n rfl dX10_bound_33 ?_
  refine zz_iload_n rfl dX10_bound_34 ?_
  try dsimp only [zz_s1, zz_s2, zz_kill, zz_ent, zz_fl, List.set_cons_zero, List.set_cons_succ, List.getElem?_cons_zero, List.getElem?_cons_succ, Option.toList_some, Option.toList_none, List.cons_append, List.nil_append, List.append_nil, List.length_cons, List.length_nil, List.replicate_succ, List.replicate_zero, Nat.reduceAdd, Nat.reduceSub]
  refine zz_cV1 dX10_bound_35 lX10_231 rfl (os_259 hO) rfl rfl (Nat.le_of_ble_eq_true rfl) (Nat.le_of_ble_eq_true rfl) ?_
  refine sp_findBound d hO hj (hn j hj).1 (hn j hj).2 (hr j hj) (hC j hj) (ff_ok (hn j hj).2 q2) (fun I' J' g1 g2 g3 g4 g5 g6 => ?_)
  try dsimp only [zz_s1, zz_s2, zz_kill, zz_ent, zz_fl, List.set_cons_zero, List.set_cons_succ, List.getElem?_cons_zero, List.getElem?_cons_succ, Option.toList_some, Option.toList_none, List.cons_append, List.nil_append, List.append_nil, List.length_cons, List.length_nil, List.replicate_succ, List.replicate_zero, Nat.reduceAdd, Nat.reduceSub]
  have h1 := h1 j hj rfl hw q2 I' J' g1 g2 g3
  refine zz_iload_n rfl dX10_bound_38 ?_
  try dsimp only [zz_s1, zz_s2, zz_kill, zz_ent, zz_fl, List.set_cons_zero, List.set_cons_succ, List.getElem?_cons_zero, List.getElem?_cons_succ, Option.toList_some, Option.toList_none, List.cons_append, List.nil_append, List.append_nil, List.length_cons, List.length_nil, List.replicate_succ, List.replicate_zero, Nat.reduceAdd, Nat.reduceSub]
  refine zz_if_ne (tgt := 50) dX10_bound_39 (by decide) (fun c4 => ?_) (fun c4 => ?_)
  · rw [if_neg c4] at h1
    refine zz_iload_n rfl dX10_bound_50 ?_
    refine zz_iconst (v := 1) (by decide) dX10_bound_51 ?_
    try dsimp only [zz_s1, zz_s2, zz_kill, zz_ent, zz_fl, List.set_cons_zero, List.set_cons_succ, List.getElem?_cons_zero, List.getElem?_cons_succ, Option.toList_some, Option.toList_none, List.cons_append, List.nil_append, List.append_nil, List.length_cons, List.length_nil, List.replicate_succ, List.replicate_zero, Nat.reduceAdd, Nat.reduceSub]
    refine zz_icmp_ne (tgt := 63) dX10_bound_52 (by decide) (fun c5 => ?_) (fun c5 => ?_)
    · rw [if_neg c5] at h1
      refine zz_aload_n rfl dX10_bound_63 ?_
      refine zz_geti dX10_bound_64 fX10_216 rfl (os_259 hO) ?_
      refine zz_ireturn dX10_bound_67 rfl (by first | rfl | decide | assumption) ?_
      rw [g6]; exact h1
    · skip
      rw [if_pos c5] at h1
      refine zz_aload_n rfl dX10_bound_55 ?_
      refine zz_getl dX10_bound_56 fX10_219 rfl (os_259 hO) ?_
      refine zz_l2i dX10_bound_59 ?_
      refine zz_goto (tgt := 67) dX10_bound_60 (by decide) ?_
      refine zz_ireturn dX10_bound_67 rfl (by first | rfl | decide | assumption) ?_
      rw [g5, lN_i]; exact h1
  · skip
    rw [if_pos c4] at h1
    refine zz_aload_n rfl dX10_bound_42 ?_
    refine zz_getl dX10_bound_43 fX10_223 rfl (os_259 hO) ?_
    refine zz_l2i dX10_bound_46 ?_
    refine zz_goto (tgt := 67) dX10_bound_47 (by decide) ?_
    refine zz_ireturn dX10_bound_67 rfl (by first | rfl | decide | assumption) ?_
    rw [g4, lN_i]; exact h1
end PBoundM

