/-! ===== the reference's search ===== -/
theorem ct2 {B : Nat → Bool} {a b : Nat} (ha : a < 64) (hb : b < 64) (a1 : B a = true) (b1 : B b = true) (ab : a ≠ b) : 2 ≤ fb_ct B 64 := by
  have h1 := ct_rm ha a1
  have h2 := ct_rm (A := rm B a) hb (rm_t.mpr ⟨b1, ab.symm⟩)
  omega
def RS (M : zz_M) (W : Nat) (N : Nat → Nat → Bool) (c : Nat) : Prop := ∀ (d : Nat) (I : zz_I) (J : zz_J) (Q : zz_Q) (set : Int64) (wa : Nat), NR J W N → sb set W → fb_ct (bl set) 64 ≤ c → wa ≤ 64 → (∀ r : Int32, bo r (wa ≤ al N 64 (bl set)) → Q (some (.int r)) M I J) → zz_D mX10_reaches (d + c + 2) [.ref 259, .long set, .int (nI wa)] M I J Q
section PReachM
variable {M : zz_M} {W : Nat} {N : Nat → Nat → Bool}
theorem RS_body (hO : OK M) (hW : W ≤ 64) (sy : ∀ x y, N x y = N y x) (rf : ∀ x, N x x = true) (c : Nat) (rec : ∀ c', c = c' + 1 → RS M W N c') : RS M W N c := by
  intro d I J Q set wa hN hs hc hwa hQ
  refine zz_D_of rfl (Nat.le_of_ble_eq_true rfl) ?_
  try dsimp only [zz_s1, zz_s2, zz_kill, zz_ent, zz_fl, List.set_cons_zero, List.set_cons_succ, List.getElem?_cons_zero, List.getElem?_cons_succ, Option.toList_some, Option.toList_none, List.cons_append, List.nil_append, List.append_nil, List.length_cons, List.length_nil, List.replicate_succ, List.replicate_zero, Nat.reduceAdd, Nat.reduceSub]
  refine zz_iload_n rfl dX10_reaches_0 ?_
  refine zz_istore dX10_reaches_1 (by decide) ?_
  refine zz_lload_n rfl dX10_reaches_3 ?_
  refine zz_lstore dX10_reaches_4 (by decide) ?_
  try dsimp only [zz_s1, zz_s2, zz_kill, zz_ent, zz_fl, List.set_cons_zero, List.set_cons_succ, List.getElem?_cons_zero, List.getElem?_cons_succ, Option.toList_some, Option.toList_none, List.cons_append, List.nil_append, List.append_nil, List.length_cons, List.length_nil, List.replicate_succ, List.replicate_zero, Nat.reduceAdd, Nat.reduceSub]
  have loop : ∀ (need : Nat) (left : Int64) (z7 z8 z9 z10 z12 z13 : Option Value), need ≤ 64 → (∀ w, bl left w = true → bl set w = true) → (wa ≤ al N 64 (bl set) ↔ need ≤ al N 64 (bl left)) → zz_G mX10_reaches (d + c + 2) 0 6 [some (.ref 259), some (.long set), none, some (.int (nI wa)), some (.int (nI need)), some (.long left), none, z7, z8, z9, z10, none, z12, z13] [] M I J Q := by
    intro need
    induction need with
    | zero =>
      intro left z7 z8 z9 z10 z12 z13 hn g1 g2
      refine zz_iload rfl dX10_reaches_6 ?_
      try dsimp only [zz_s1, zz_s2, zz_kill, zz_ent, zz_fl, List.set_cons_zero, List.set_cons_succ, List.getElem?_cons_zero, List.getElem?_cons_succ, Option.toList_some, Option.toList_none, List.cons_append, List.nil_append, List.append_nil, List.length_cons, List.length_nil, List.replicate_succ, List.replicate_zero, Nat.reduceAdd, Nat.reduceSub]
      refine zz_if_le (tgt := 197) dX10_reaches_8 (by decide) (fun h => ?_) (fun h => ?_)
      · refine zz_iconst (v := 1) (by decide) dX10_reaches_197 ?_
        refine zz_ireturn dX10_reaches_198 rfl (by first | rfl | decide | assumption) ?_
        exact hQ 1 (bo.one (g2.mpr (Nat.zero_le _)))
      · exact absurd (Int32.le_refl _) h
    | succ need ih =>
      intro left z7 z8 z9 z10 z12 z13 hn g1 g2
      have hls : sb left W := fun w hw => hs w (g1 w hw)
      have hct := ct64 left
      refine zz_iload rfl dX10_reaches_6 ?_
      try dsimp only [zz_s1, zz_s2, zz_kill, zz_ent, zz_fl, List.set_cons_zero, List.set_cons_succ, List.getElem?_cons_zero, List.getElem?_cons_succ, Option.toList_some, Option.toList_none, List.cons_append, List.nil_append, List.append_nil, List.length_cons, List.length_nil, List.replicate_succ, List.replicate_zero, Nat.reduceAdd, Nat.reduceSub]
      refine zz_if_le (tgt := 197) dX10_reaches_8 (by decide) (fun h => ?_) (fun h => ?_)
      · exact absurd h (nI_nle (by omega) (by omega))
      refine zz_lload rfl dX10_reaches_11 ?_
      try dsimp only [zz_s1, zz_s2, zz_kill, zz_ent, zz_fl, List.set_cons_zero, List.set_cons_succ, List.getElem?_cons_zero, List.getElem?_cons_succ, Option.toList_some, Option.toList_none, List.cons_append, List.nil_append, List.append_nil, List.length_cons, List.length_nil, List.replicate_succ, List.replicate_zero, Nat.reduceAdd, Nat.reduceSub]
      refine zz_cS1 dX10_reaches_13 lX10_139 rfl (Nat.le_of_ble_eq_true rfl) (Nat.le_of_ble_eq_true rfl) ?_
      refine sp_bits (d + c + 1) ?_
      try dsimp only [zz_s1, zz_s2, zz_kill, zz_ent, zz_fl, List.set_cons_zero, List.set_cons_succ, List.getElem?_cons_zero, List.getElem?_cons_succ, Option.toList_some, Option.toList_none, List.cons_append, List.nil_append, List.append_nil, List.length_cons, List.length_nil, List.replicate_succ, List.replicate_zero, Nat.reduceAdd, Nat.reduceSub]
      refine zz_iload rfl dX10_reaches_16 ?_
      try dsimp only [zz_s1, zz_s2, zz_kill, zz_ent, zz_fl, List.set_cons_zero, List.set_cons_succ, List.getElem?_cons_zero, List.getElem?_cons_succ, Option.toList_some, Option.toList_none, List.cons_append, List.nil_append, List.append_nil, List.length_cons, List.length_nil, List.replicate_succ, List.replicate_zero, Nat.reduceAdd, Nat.reduceSub]
      refine zz_icmp_ge (tgt := 23) dX10_reaches_18 (by decide) (fun h2 => ?_) (fun h2 => ?_)
      rotate_left
      · refine zz_iconst (v := 0) (by decide) dX10_reaches_21 ?_
        refine zz_ireturn dX10_reaches_22 rfl (by first | rfl | decide | assumption) ?_
        have h2' : fb_ct (bl left) 64 < need + 1 := Nat.lt_of_not_le fun z => h2 (nI_le z (by omega))
        refine hQ 0 (bo.zero fun z => ?_)
        have := g2.mp z
        have := al_ct (N := N) (i := 64) (A := bl left)
        omega
      have h2' : need + 1 ≤ fb_ct (bl left) 64 := (nI_leI (by omega) (by omega)).mp h2
      -- a word taken or left
      have take : ∀ (v : Nat) (z7 z8 z9 z12 z13 : Option Value), bl left v = true → (wa ≤ al N 64 (bl set) ↔ need ≤ al N 64 (mi (bl left) (N v))) → zz_G mX10_reaches (d + c + 2) 0 166 [some (.ref 259), some (.long set), none, some (.int (nI wa)), some (.int (nI (need + 1))), some (.long left), none, z7, z8, z9, some (.int (nI v)), none, z12, z13] [] M I J Q := by
        intro v z7 z8 z9 z12 z13 hv hiff
        have hvW := hls v hv
        have hv64 : v < 64 := by omega
        refine zz_iinc dX10_reaches_166 rfl (congrArg (HAdd.hAdd _) (show Int32.ofInt (-1) = (-1) by decide)) (by decide) ?_
        refine zz_lload rfl dX10_reaches_169 ?_
        refine zz_aload_n rfl dX10_reaches_171 ?_
        refine zz_getr dX10_reaches_172 fX10_42 (fun _ _ _ _ => rfl) (os_259 hO) (or_259_12 hO) ?_
        refine zz_iload rfl dX10_reaches_175 ?_
        refine zz_lald dX10_reaches_177 (os_269 hO) (vp_in_nI hv64 (by decide)) ?_
        refine zz_ldc2 tX10_155 dX10_reaches_178 ?_
        refine zz_lxor dX10_reaches_181 ?_
        refine zz_lconst (v := 1) (by decide) dX10_reaches_182 ?_
        refine zz_iload rfl dX10_reaches_183 ?_
        refine zz_lshl dX10_reaches_185 ?_
        refine zz_ldc2 tX10_155 dX10_reaches_186 ?_
        refine zz_lxor dX10_reaches_189 ?_
        refine zz_land dX10_reaches_190 ?_
        refine zz_land dX10_reaches_191 ?_
        refine zz_lstore dX10_reaches_192 (by decide) ?_
        refine zz_goto (tgt := 6) dX10_reaches_194 (by decide) ?_
        try dsimp only [zz_s1, zz_s2, zz_kill, zz_ent, zz_fl, List.set_cons_zero, List.set_cons_succ, List.getElem?_cons_zero, List.getElem?_cons_succ, Option.toList_some, Option.toList_none, List.cons_append, List.nil_append, List.append_nil, List.length_cons, List.length_nil, List.replicate_succ, List.replicate_zero, Nat.reduceAdd, Nat.reduceSub]
        rw [nI_dn, nI_clamp (show v < 2 ^ 31 by omega)]
        have eb : bl (left &&& ((J 269 v ^^^ (-1)) &&& (jv_lshl 1 (nI v) ^^^ (-1)))) = mi (bl left) (N v) := by
          funext w
          rw [bl_and, Bool.eq_iff_iff, Bool.and_eq_true, mi_t]
          by_cases hw : bl left w = true
          · have hwW := hls w hw
            rw [bl_and, bl_not _ (by omega), bl_not _ (by omega), bl_one' hv64, hN v hvW w]
            by_cases e : w = v
            · subst e; simp [rf]
            · simp [hw, e, hwW]
          · simp [hw]
        exact ih _ _ _ _ _ _ _ (by omega) (fun w hw => by rw [eb, mi_t] at hw; exact g1 w hw.1) (by rw [eb]; exact hiff)
      have pick : ∀ (v : Nat) (al' : Int32) (z7 z8 z12 z13 : Option Value), bl left v = true → ((al' = -1) ∨ (al' = nI v ∧ fb_ct (bl (J 269 v &&& left)) 64 < 2)) → zz_G mX10_reaches (d + c + 2) 0 123 [some (.ref 259), some (.long set), none, some (.int (nI wa)), some (.int (nI (need + 1))), some (.long left), none, z7, z8, some (.int al'), some (.int (nI v)), none, z12, z13] [] M I J Q := by
        intro v al' z7 z8 z12 z13 hv hcase
        have hvW := hls v hv
        have hv64 : v < 64 := by omega
        have hbr := al_br sy rf hv64 hv
        have hcv := ct_rm hv64 hv
        refine zz_iload rfl dX10_reaches_123 ?_
        refine zz_iconst (v := (-1)) (by decide) dX10_reaches_125 ?_
        try dsimp only [zz_s1, zz_s2, zz_kill, zz_ent, zz_fl, List.set_cons_zero, List.set_cons_succ, List.getElem?_cons_zero, List.getElem?_cons_succ, Option.toList_some, Option.toList_none, List.cons_append, List.nil_append, List.append_nil, List.length_cons, List.length_nil, List.replicate_succ, List.replicate_zero, Nat.reduceAdd, Nat.reduceSub]
        rcases hcase with z | ⟨z, z2⟩
        · rw [z]
          refine zz_icmp_ne (tgt := 166) dX10_reaches_126 (by decide) (fun h3 => ?_) (fun h3 => ?_)
          · exact absurd rfl h3
          · skip
            refine zz_aload_n rfl dX10_reaches_129 ?_
            refine zz_lload rfl dX10_reaches_130 ?_
            refine zz_iload rfl dX10_reaches_132 ?_
            try dsimp only [zz_s1, zz_s2, zz_kill, zz_ent, zz_fl, List.set_cons_zero, List.set_cons_succ, List.getElem?_cons_zero, List.getElem?_cons_succ, Option.toList_some, Option.toList_none, List.cons_append, List.nil_append, List.append_nil, List.length_cons, List.length_nil, List.replicate_succ, List.replicate_zero, Nat.reduceAdd, Nat.reduceSub]
            refine zz_cV2 dX10_reaches_134 lX10_160 rfl (os_259 hO) rfl rfl (Nat.le_of_ble_eq_true rfl) (Nat.le_of_ble_eq_true rfl) ?_
            refine sp_cover (d + c) hO hW sy hN (show need + 1 ≤ 64 by omega) hls (fun cc k1 k2 => ?_)
            try dsimp only [zz_s1, zz_s2, zz_kill, zz_ent, zz_fl, List.set_cons_zero, List.set_cons_succ, List.getElem?_cons_zero, List.getElem?_cons_succ, Option.toList_some, Option.toList_none, List.cons_append, List.nil_append, List.append_nil, List.length_cons, List.length_nil, List.replicate_succ, List.replicate_zero, Nat.reduceAdd, Nat.reduceSub]
            refine zz_iload rfl dX10_reaches_137 ?_
            try dsimp only [zz_s1, zz_s2, zz_kill, zz_ent, zz_fl, List.set_cons_zero, List.set_cons_succ, List.getElem?_cons_zero, List.getElem?_cons_succ, Option.toList_some, Option.toList_none, List.cons_append, List.nil_append, List.append_nil, List.length_cons, List.length_nil, List.replicate_succ, List.replicate_zero, Nat.reduceAdd, Nat.reduceSub]
            refine zz_icmp_ge (tgt := 144) dX10_reaches_139 (by decide) (fun h4 => ?_) (fun h4 => ?_)
            rotate_left
            · refine zz_iconst (v := 0) (by decide) dX10_reaches_142 ?_
              refine zz_ireturn dX10_reaches_143 rfl (by first | rfl | decide | assumption) ?_
              have h4' : cc < need + 1 := Nat.lt_of_not_le fun z => h4 (nI_le z (by omega))
              refine hQ 0 (bo.zero fun z => ?_)
              have := g2.mp z
              have := k2 h4'
              omega
            refine zz_aload_n rfl dX10_reaches_144 ?_
            refine zz_lload rfl dX10_reaches_145 ?_
            refine zz_lconst (v := 1) (by decide) dX10_reaches_147 ?_
            refine zz_iload rfl dX10_reaches_148 ?_
            refine zz_lshl dX10_reaches_150 ?_
            refine zz_ldc2 tX10_155 dX10_reaches_151 ?_
            refine zz_lxor dX10_reaches_154 ?_
            refine zz_land dX10_reaches_155 ?_
            refine zz_iload rfl dX10_reaches_156 ?_
            try dsimp only [zz_s1, zz_s2, zz_kill, zz_ent, zz_fl, List.set_cons_zero, List.set_cons_succ, List.getElem?_cons_zero, List.getElem?_cons_succ, Option.toList_some, Option.toList_none, List.cons_append, List.nil_append, List.append_nil, List.length_cons, List.length_nil, List.replicate_succ, List.replicate_zero, Nat.reduceAdd, Nat.reduceSub]
            have hcl : fb_ct (bl left) 64 ≤ fb_ct (bl set) 64 := fb_ct_sub (fun k _ z => g1 k z)
            obtain ⟨c', rfl⟩ : ∃ c', c = c' + 1 := ⟨c - 1, by omega⟩
            refine zz_cV2 dX10_reaches_158 lX10_164 rfl (os_259 hO) rfl rfl (Nat.le_of_ble_eq_true rfl) (Nat.le_of_ble_eq_true rfl) ?_
            refine rec c' rfl d I J _ _ (need + 1) hN (fun w hw => by rw [br1 _ hv64, rm_t] at hw; exact hls w hw.1) (by rw [br1 _ hv64]; omega) (by omega) (fun r hr => ?_)
            try dsimp only [zz_s1, zz_s2, zz_kill, zz_ent, zz_fl, List.set_cons_zero, List.set_cons_succ, List.getElem?_cons_zero, List.getElem?_cons_succ, Option.toList_some, Option.toList_none, List.cons_append, List.nil_append, List.append_nil, List.length_cons, List.length_nil, List.replicate_succ, List.replicate_zero, Nat.reduceAdd, Nat.reduceSub]
            rw [br1 _ hv64] at hr
            refine zz_if_eq (tgt := 166) dX10_reaches_161 (by decide) (fun h5 => ?_) (fun h5 => ?_)
            · have hno := hr.f h5
              exact take v _ _ _ _ _ hv (g2.trans ⟨fun z => by omega, fun z => by omega⟩)
            · skip
              refine zz_iconst (v := 1) (by decide) dX10_reaches_164 ?_
              refine zz_ireturn dX10_reaches_165 rfl (by first | rfl | decide | assumption) ?_
              have hyes := hr.t h5
              exact hQ 1 (bo.one (g2.mpr (by omega)))
        · have hleaf : al N 64 (bl left) = 1 + al N 64 (mi (bl left) (N v)) := al_leaf sy rf hv64 hv (fun x y hx hy x1 y1 x2 y2 x3 y3 => Classical.byContradiction fun ne => by
            have q : ∀ t, t < 64 → bl left t = true → t ≠ v → N v t = true → bl (J 269 v &&& left) t = true := fun t _ t1 t2 t3 => by
              rw [Int64.and_comm, nra hN hls hvW, t1, t3]
              simp [t2]
            have := ct2 hx hy (q x hx x1 x2 x3) (q y hy y1 y2 y3) ne
            omega)
          refine zz_icmp_ne (tgt := 166) dX10_reaches_126 (by decide) (fun h3 => ?_) (fun h3 => ?_)
          · exact take v _ _ _ _ _ hv (g2.trans ⟨fun z => by omega, fun z => by omega⟩)
          · exfalso
            rw [z] at h3
            have := congrArg Int32.toInt h3
            rw [nI_toInt (by omega)] at this
            have e1 : (-1 : Int32).toInt = -1 := by decide
            omega
      refine zz_iconst (v := (-1)) (by decide) dX10_reaches_23 ?_
      refine zz_istore dX10_reaches_24 (by decide) ?_
      refine zz_iconst (v := (-1)) (by decide) dX10_reaches_26 ?_
      refine zz_istore dX10_reaches_27 (by decide) ?_
      refine zz_iconst (v := (-1)) (by decide) dX10_reaches_29 ?_
      refine zz_istore dX10_reaches_30 (by decide) ?_
      refine zz_lload rfl dX10_reaches_32 ?_
      refine zz_lstore dX10_reaches_34 (by decide) ?_
      try dsimp only [zz_s1, zz_s2, zz_kill, zz_ent, zz_fl, List.set_cons_zero, List.set_cons_succ, List.getElem?_cons_zero, List.getElem?_cons_succ, Option.toList_some, Option.toList_none, List.cons_append, List.nil_append, List.append_nil, List.length_cons, List.length_nil, List.replicate_succ, List.replicate_zero, Nat.reduceAdd, Nat.reduceSub]
      have find : ∀ (q : Nat) (rest : Int64) (wo mo : Int32) (z12 z13 : Option Value), fb_ct (bl rest) 64 = q → (∀ w, bl rest w = true → bl left w = true) → ((mo = -1 ∧ rest = left) ∨ ∃ v, wo = nI v ∧ bl left v = true) → zz_G mX10_reaches (d + c + 2) 0 36 [some (.ref 259), some (.long set), none, some (.int (nI wa)), some (.int (nI (need + 1))), some (.long left), none, some (.int wo), some (.int mo), some (.int (-1)), some (.long rest), none, z12, z13] [] M I J Q := by
        intro q
        induction q with
        | zero =>
          intro rest wo mo z12 z13 hc2 k1 k2
          have e0 : rest = 0 := ct0 hc2
          refine zz_lload rfl dX10_reaches_36 ?_
          refine zz_lconst (v := 0) (by decide) dX10_reaches_38 ?_
          refine zz_lcmp dX10_reaches_39 ?_
          try dsimp only [zz_s1, zz_s2, zz_kill, zz_ent, zz_fl, List.set_cons_zero, List.set_cons_succ, List.getElem?_cons_zero, List.getElem?_cons_succ, Option.toList_some, Option.toList_none, List.cons_append, List.nil_append, List.append_nil, List.length_cons, List.length_nil, List.replicate_succ, List.replicate_zero, Nat.reduceAdd, Nat.reduceSub]
          refine zz_if_eq (tgt := 108) dX10_reaches_40 (by decide) (fun h3 => ?_) (fun h3 => ?_)
          · refine zz_iload rfl dX10_reaches_108 ?_
            refine zz_iconst (v := (-1)) (by decide) dX10_reaches_110 ?_
            try dsimp only [zz_s1, zz_s2, zz_kill, zz_ent, zz_fl, List.set_cons_zero, List.set_cons_succ, List.getElem?_cons_zero, List.getElem?_cons_succ, Option.toList_some, Option.toList_none, List.cons_append, List.nil_append, List.append_nil, List.length_cons, List.length_nil, List.replicate_succ, List.replicate_zero, Nat.reduceAdd, Nat.reduceSub]
            refine zz_icmp_ne (tgt := 119) dX10_reaches_111 (by decide) (fun h4 => ?_) (fun h4 => ?_)
            · exact absurd rfl h4
            · skip
              rcases k2 with z | ⟨v, z1, z2⟩
              · rw [← z.2] at h2'; omega
              · refine zz_iload rfl dX10_reaches_114 ?_
                refine zz_goto (tgt := 121) dX10_reaches_116 (by decide) ?_
                refine zz_istore dX10_reaches_121 (by decide) ?_
                try dsimp only [zz_s1, zz_s2, zz_kill, zz_ent, zz_fl, List.set_cons_zero, List.set_cons_succ, List.getElem?_cons_zero, List.getElem?_cons_succ, Option.toList_some, Option.toList_none, List.cons_append, List.nil_append, List.append_nil, List.length_cons, List.length_nil, List.replicate_succ, List.replicate_zero, Nat.reduceAdd, Nat.reduceSub]
                rw [z1]
                exact pick v (-1) _ _ _ _ z2 (Or.inl rfl)
          · exact absurd (cmp_eq.mpr e0) h3
        | succ q ih2 =>
          intro rest wo mo z12 z13 hc2 k1 k2
          obtain ⟨u, hu, hl⟩ := ctn hc2
          have hul := k1 u hl.1
          have hc3 := ct_rm hu hl.1
          rw [← bd hl] at hc3
          have hc5 := ct64 (J 269 u &&& left)
          have k1' : ∀ w, bl (rest &&& (rest - 1)) w = true → bl left w = true := fun w hw => by rw [bd hl, rm_t] at hw; exact k1 w hw.1
          refine zz_lload rfl dX10_reaches_36 ?_
          refine zz_lconst (v := 0) (by decide) dX10_reaches_38 ?_
          refine zz_lcmp dX10_reaches_39 ?_
          try dsimp only [zz_s1, zz_s2, zz_kill, zz_ent, zz_fl, List.set_cons_zero, List.set_cons_succ, List.getElem?_cons_zero, List.getElem?_cons_succ, Option.toList_some, Option.toList_none, List.cons_append, List.nil_append, List.append_nil, List.length_cons, List.length_nil, List.replicate_succ, List.replicate_zero, Nat.reduceAdd, Nat.reduceSub]
          refine zz_if_eq (tgt := 108) dX10_reaches_40 (by decide) (fun h3 => ?_) (fun h3 => ?_)
          · have e0 : rest = 0 := cmp_eq.mp h3
            rw [e0, show fb_ct (bl 0) 64 = 0 from fb_ct_zero.mpr (fun i _ => bl_0 i)] at hc2
            omega
          refine zz_iload rfl dX10_reaches_43 ?_
          refine zz_iconst (v := (-1)) (by decide) dX10_reaches_45 ?_
          try dsimp only [zz_s1, zz_s2, zz_kill, zz_ent, zz_fl, List.set_cons_zero, List.set_cons_succ, List.getElem?_cons_zero, List.getElem?_cons_succ, Option.toList_some, Option.toList_none, List.cons_append, List.nil_append, List.append_nil, List.length_cons, List.length_nil, List.replicate_succ, List.replicate_zero, Nat.reduceAdd, Nat.reduceSub]
          refine zz_icmp_ne (tgt := 108) dX10_reaches_46 (by decide) (fun h4 => ?_) (fun h4 => ?_)
          · exact absurd rfl h4
          refine zz_lload rfl dX10_reaches_49 ?_
          try dsimp only [zz_s1, zz_s2, zz_kill, zz_ent, zz_fl, List.set_cons_zero, List.set_cons_succ, List.getElem?_cons_zero, List.getElem?_cons_succ, Option.toList_some, Option.toList_none, List.cons_append, List.nil_append, List.append_nil, List.length_cons, List.length_nil, List.replicate_succ, List.replicate_zero, Nat.reduceAdd, Nat.reduceSub]
          refine zz_cS1 dX10_reaches_51 lX10_157 rfl (Nat.le_of_ble_eq_true rfl) (Nat.le_of_ble_eq_true rfl) ?_
          refine sp_X10_lowest (d + c + 1) hl ?_
          try dsimp only [zz_s1, zz_s2, zz_kill, zz_ent, zz_fl, List.set_cons_zero, List.set_cons_succ, List.getElem?_cons_zero, List.getElem?_cons_succ, Option.toList_some, Option.toList_none, List.cons_append, List.nil_append, List.append_nil, List.length_cons, List.length_nil, List.replicate_succ, List.replicate_zero, Nat.reduceAdd, Nat.reduceSub]
          refine zz_istore dX10_reaches_54 (by decide) ?_
          refine zz_aload_n rfl dX10_reaches_56 ?_
          refine zz_getr dX10_reaches_57 fX10_42 (fun _ _ _ _ => rfl) (os_259 hO) (or_259_12 hO) ?_
          refine zz_iload rfl dX10_reaches_60 ?_
          refine zz_lald dX10_reaches_62 (os_269 hO) (vp_in_nI hu (by decide)) ?_
          refine zz_lload rfl dX10_reaches_63 ?_
          refine zz_land dX10_reaches_65 ?_
          try dsimp only [zz_s1, zz_s2, zz_kill, zz_ent, zz_fl, List.set_cons_zero, List.set_cons_succ, List.getElem?_cons_zero, List.getElem?_cons_succ, Option.toList_some, Option.toList_none, List.cons_append, List.nil_append, List.append_nil, List.length_cons, List.length_nil, List.replicate_succ, List.replicate_zero, Nat.reduceAdd, Nat.reduceSub]
          rw [nI_clamp (show u < 2 ^ 31 by omega)]
          refine zz_cS1 dX10_reaches_66 lX10_139 rfl (Nat.le_of_ble_eq_true rfl) (Nat.le_of_ble_eq_true rfl) ?_
          refine sp_bits (d + c + 1) ?_
          try dsimp only [zz_s1, zz_s2, zz_kill, zz_ent, zz_fl, List.set_cons_zero, List.set_cons_succ, List.getElem?_cons_zero, List.getElem?_cons_succ, Option.toList_some, Option.toList_none, List.cons_append, List.nil_append, List.append_nil, List.length_cons, List.length_nil, List.replicate_succ, List.replicate_zero, Nat.reduceAdd, Nat.reduceSub]
          refine zz_istore dX10_reaches_69 (by decide) ?_
          refine zz_iload rfl dX10_reaches_71 ?_
          refine zz_iconst (v := 2) (by decide) dX10_reaches_73 ?_
          try dsimp only [zz_s1, zz_s2, zz_kill, zz_ent, zz_fl, List.set_cons_zero, List.set_cons_succ, List.getElem?_cons_zero, List.getElem?_cons_succ, Option.toList_some, Option.toList_none, List.cons_append, List.nil_append, List.append_nil, List.length_cons, List.length_nil, List.replicate_succ, List.replicate_zero, Nat.reduceAdd, Nat.reduceSub]
          -- behind the choice of alone
          have nxt : ∀ (al' : Int32), (al' = -1 ∨ (al' = nI u ∧ fb_ct (bl (J 269 u &&& left)) 64 < 2)) → zz_G mX10_reaches (d + c + 2) 0 81 [some (.ref 259), some (.long set), none, some (.int (nI wa)), some (.int (nI (need + 1))), some (.long left), none, some (.int wo), some (.int mo), some (.int al'), some (.long rest), none, some (.int (nI u)), some (.int (nI (fb_ct (bl (J 269 u &&& left)) 64)))] [] M I J Q := by
            intro al' hal
            have fin : ∀ (wo' mo' : Int32), (∃ v, wo' = nI v ∧ bl left v = true) → zz_G mX10_reaches (d + c + 2) 0 36 [some (.ref 259), some (.long set), none, some (.int (nI wa)), some (.int (nI (need + 1))), some (.long left), none, some (.int wo'), some (.int mo'), some (.int al'), some (.long (rest &&& (rest - 1))), none, some (.int (nI u)), some (.int (nI (fb_ct (bl (J 269 u &&& left)) 64)))] [] M I J Q := by
              intro wo' mo' hwo
              rcases hal with z | ⟨z, z2⟩
              · rw [z]
                exact ih2 _ wo' mo' _ _ (by omega) k1' (Or.inr hwo)
              · -- alone found: the loop ends
                have h108 : zz_G mX10_reaches (d + c + 2) 0 108 [some (.ref 259), some (.long set), none, some (.int (nI wa)), some (.int (nI (need + 1))), some (.long left), none, some (.int wo'), some (.int mo'), some (.int al'), some (.long (rest &&& (rest - 1))), none, some (.int (nI u)), some (.int (nI (fb_ct (bl (J 269 u &&& left)) 64)))] [] M I J Q := by
                  refine zz_iload rfl dX10_reaches_108 ?_
                  refine zz_iconst (v := (-1)) (by decide) dX10_reaches_110 ?_
                  try dsimp only [zz_s1, zz_s2, zz_kill, zz_ent, zz_fl, List.set_cons_zero, List.set_cons_succ, List.getElem?_cons_zero, List.getElem?_cons_succ, Option.toList_some, Option.toList_none, List.cons_append, List.nil_append, List.append_nil, List.length_cons, List.length_nil, List.replicate_succ, List.replicate_zero, Nat.reduceAdd, Nat.reduceSub]
                  refine zz_icmp_ne (tgt := 119) dX10_reaches_111 (by decide) (fun h7 => ?_) (fun h7 => ?_)
                  · refine zz_iload rfl dX10_reaches_119 ?_
                    refine zz_istore dX10_reaches_121 (by decide) ?_
                    try dsimp only [zz_s1, zz_s2, zz_kill, zz_ent, zz_fl, List.set_cons_zero, List.set_cons_succ, List.getElem?_cons_zero, List.getElem?_cons_succ, Option.toList_some, Option.toList_none, List.cons_append, List.nil_append, List.append_nil, List.length_cons, List.length_nil, List.replicate_succ, List.replicate_zero, Nat.reduceAdd, Nat.reduceSub]
                    rw [z]
                    exact pick u (nI u) _ _ _ _ hul (Or.inr ⟨rfl, z2⟩)
                  · exfalso
                    rw [z] at h7
                    have := congrArg Int32.toInt h7
                    rw [nI_toInt (by omega)] at this
                    have e1 : (-1 : Int32).toInt = -1 := by decide
                    omega
                refine zz_lload rfl dX10_reaches_36 ?_
                refine zz_lconst (v := 0) (by decide) dX10_reaches_38 ?_
                refine zz_lcmp dX10_reaches_39 ?_
                try dsimp only [zz_s1, zz_s2, zz_kill, zz_ent, zz_fl, List.set_cons_zero, List.set_cons_succ, List.getElem?_cons_zero, List.getElem?_cons_succ, Option.toList_some, Option.toList_none, List.cons_append, List.nil_append, List.append_nil, List.length_cons, List.length_nil, List.replicate_succ, List.replicate_zero, Nat.reduceAdd, Nat.reduceSub]
                refine zz_if_eq (tgt := 108) dX10_reaches_40 (by decide) (fun h5 => ?_) (fun h5 => ?_)
                · exact h108
                · skip
                  refine zz_iload rfl dX10_reaches_43 ?_
                  refine zz_iconst (v := (-1)) (by decide) dX10_reaches_45 ?_
                  try dsimp only [zz_s1, zz_s2, zz_kill, zz_ent, zz_fl, List.set_cons_zero, List.set_cons_succ, List.getElem?_cons_zero, List.getElem?_cons_succ, Option.toList_some, Option.toList_none, List.cons_append, List.nil_append, List.append_nil, List.length_cons, List.length_nil, List.replicate_succ, List.replicate_zero, Nat.reduceAdd, Nat.reduceSub]
                  refine zz_icmp_ne (tgt := 108) dX10_reaches_46 (by decide) (fun h6 => ?_) (fun h6 => ?_)
                  · exact h108
                  · exfalso
                    rw [z] at h6
                    have := congrArg Int32.toInt h6
                    rw [nI_toInt (by omega)] at this
                    have e1 : (-1 : Int32).toInt = -1 := by decide
                    omega
            refine zz_iload rfl dX10_reaches_81 ?_
            refine zz_iload rfl dX10_reaches_83 ?_
            try dsimp only [zz_s1, zz_s2, zz_kill, zz_ent, zz_fl, List.set_cons_zero, List.set_cons_succ, List.getElem?_cons_zero, List.getElem?_cons_succ, Option.toList_some, Option.toList_none, List.cons_append, List.nil_append, List.append_nil, List.length_cons, List.length_nil, List.replicate_succ, List.replicate_zero, Nat.reduceAdd, Nat.reduceSub]
            refine zz_icmp_le (tgt := 96) dX10_reaches_85 (by decide) (fun h5 => ?_) (fun h5 => ?_)
            · refine zz_lload rfl dX10_reaches_96 ?_
              refine zz_lload rfl dX10_reaches_98 ?_
              refine zz_lconst (v := 1) (by decide) dX10_reaches_100 ?_
              refine zz_lsub dX10_reaches_101 ?_
              refine zz_land dX10_reaches_102 ?_
              refine zz_lstore dX10_reaches_103 (by decide) ?_
              refine zz_goto (tgt := 36) dX10_reaches_105 (by decide) ?_
              try dsimp only [zz_s1, zz_s2, zz_kill, zz_ent, zz_fl, List.set_cons_zero, List.set_cons_succ, List.getElem?_cons_zero, List.getElem?_cons_succ, Option.toList_some, Option.toList_none, List.cons_append, List.nil_append, List.append_nil, List.length_cons, List.length_nil, List.replicate_succ, List.replicate_zero, Nat.reduceAdd, Nat.reduceSub]
              rcases k2 with z | z
              · exfalso
                rw [z.1, Int32.le_iff_toInt_le, nI_toInt (by omega)] at h5
                have : (-1 : Int32).toInt = -1 := by decide
                omega
              · exact fin wo mo z
            · skip
              refine zz_iload rfl dX10_reaches_88 ?_
              refine zz_istore dX10_reaches_90 (by decide) ?_
              refine zz_iload rfl dX10_reaches_92 ?_
              refine zz_istore dX10_reaches_94 (by decide) ?_
              refine zz_lload rfl dX10_reaches_96 ?_
              refine zz_lload rfl dX10_reaches_98 ?_
              refine zz_lconst (v := 1) (by decide) dX10_reaches_100 ?_
              refine zz_lsub dX10_reaches_101 ?_
              refine zz_land dX10_reaches_102 ?_
              refine zz_lstore dX10_reaches_103 (by decide) ?_
              refine zz_goto (tgt := 36) dX10_reaches_105 (by decide) ?_
              try dsimp only [zz_s1, zz_s2, zz_kill, zz_ent, zz_fl, List.set_cons_zero, List.set_cons_succ, List.getElem?_cons_zero, List.getElem?_cons_succ, Option.toList_some, Option.toList_none, List.cons_append, List.nil_append, List.append_nil, List.length_cons, List.length_nil, List.replicate_succ, List.replicate_zero, Nat.reduceAdd, Nat.reduceSub]
              exact fin _ _ ⟨u, rfl, hul⟩
          refine zz_icmp_ge (tgt := 81) dX10_reaches_74 (by decide) (fun h5 => ?_) (fun h5 => ?_)
          · exact nxt (-1) (Or.inl rfl)
          · skip
            refine zz_iload rfl dX10_reaches_77 ?_
            refine zz_istore dX10_reaches_79 (by decide) ?_
            try dsimp only [zz_s1, zz_s2, zz_kill, zz_ent, zz_fl, List.set_cons_zero, List.set_cons_succ, List.getElem?_cons_zero, List.getElem?_cons_succ, Option.toList_some, Option.toList_none, List.cons_append, List.nil_append, List.append_nil, List.length_cons, List.length_nil, List.replicate_succ, List.replicate_zero, Nat.reduceAdd, Nat.reduceSub]
            exact nxt (nI u) (Or.inr ⟨rfl, Nat.lt_of_not_le fun z => h5 (nI_le (a := 2) z (by omega))⟩)
      exact find _ left (-1) (-1) _ _ rfl (fun _ z => z) (Or.inl ⟨rfl, rfl⟩)
  exact loop wa set _ _ _ _ _ _ hwa (fun _ z => z) Iff.rfl
theorem sp_X10_reaches (hO : OK M) (hW : W ≤ 64) (sy : ∀ x y, N x y = N y x) (rf : ∀ x, N x x = true) : ∀ c, RS M W N c
  | 0 => RS_body hO hW sy rf 0 (fun c' h => by omega)
  | c + 1 => RS_body hO hW sy rf (c + 1) (fun c' h => by cases h; exact sp_X10_reaches hO hW sy rf c)
variable {I : zz_I} {J : zz_J} {Q : zz_Q}
theorem sp_largest (d : Nat) (hO : OK M) (hW : W ≤ 64) (sy : ∀ x y, N x y = N y x) (rf : ∀ x, N x x = true) (hN : NR J W N) {set : Int64} (hs : sb set W) (hQ : Q (some (.int (nI (al N 64 (bl set))))) M I J) : zz_D mX10_largest (d + 67) [.ref 259, .long set] M I J Q := by
  have hal : al N 64 (bl set) ≤ 64 := Nat.le_trans al_ct (ct64 set)
  refine zz_D_of rfl (Nat.le_of_ble_eq_true rfl) ?_
  try dsimp only [zz_s1, zz_s2, zz_kill, zz_ent, zz_fl, List.set_cons_zero, List.set_cons_succ, List.getElem?_cons_zero, List.getElem?_cons_succ, Option.toList_some, Option.toList_none, List.cons_append, List.nil_append, List.append_nil, List.length_cons, List.length_nil, List.replicate_succ, List.replicate_zero, Nat.reduceAdd, Nat.reduceSub]
  refine zz_aload_n rfl dX10_largest_0 ?_
  refine zz_lload_n rfl dX10_largest_1 ?_
  refine zz_bipush (v := 64) (by decide) dX10_largest_2 ?_
  try dsimp only [zz_s1, zz_s2, zz_kill, zz_ent, zz_fl, List.set_cons_zero, List.set_cons_succ, List.getElem?_cons_zero, List.getElem?_cons_succ, Option.toList_some, Option.toList_none, List.cons_append, List.nil_append, List.append_nil, List.length_cons, List.length_nil, List.replicate_succ, List.replicate_zero, Nat.reduceAdd, Nat.reduceSub]
  refine zz_cV2 dX10_largest_4 lX10_160 rfl (os_259 hO) rfl rfl (Nat.le_of_ble_eq_true rfl) (Nat.le_of_ble_eq_true rfl) ?_
  refine sp_cover (d + 65) hO hW sy hN (e := 64) (Nat.le_refl _) hs (fun c k1 k2 => ?_)
  try dsimp only [zz_s1, zz_s2, zz_kill, zz_ent, zz_fl, List.set_cons_zero, List.set_cons_succ, List.getElem?_cons_zero, List.getElem?_cons_succ, Option.toList_some, Option.toList_none, List.cons_append, List.nil_append, List.append_nil, List.length_cons, List.length_nil, List.replicate_succ, List.replicate_zero, Nat.reduceAdd, Nat.reduceSub]
  have hge : al N 64 (bl set) ≤ c := by
    by_cases h : c < 64
    · exact k2 h
    · omega
  refine zz_istore_n dX10_largest_7 (by decide) ?_
  try dsimp only [zz_s1, zz_s2, zz_kill, zz_ent, zz_fl, List.set_cons_zero, List.set_cons_succ, List.getElem?_cons_zero, List.getElem?_cons_succ, Option.toList_some, Option.toList_none, List.cons_append, List.nil_append, List.append_nil, List.length_cons, List.length_nil, List.replicate_succ, List.replicate_zero, Nat.reduceAdd, Nat.reduceSub]
  have loop : ∀ (q n : Nat), al N 64 (bl set) + q = n → n ≤ 64 → zz_G mX10_largest (d + 67) 0 8 [some (.ref 259), some (.long set), none, some (.int (nI n))] [] M I J Q := by
    intro q
    induction q with
    | zero =>
      intro n hn hn64
      refine zz_aload_n rfl dX10_largest_8 ?_
      refine zz_lload_n rfl dX10_largest_9 ?_
      refine zz_iload_n rfl dX10_largest_10 ?_
      try dsimp only [zz_s1, zz_s2, zz_kill, zz_ent, zz_fl, List.set_cons_zero, List.set_cons_succ, List.getElem?_cons_zero, List.getElem?_cons_succ, Option.toList_some, Option.toList_none, List.cons_append, List.nil_append, List.append_nil, List.length_cons, List.length_nil, List.replicate_succ, List.replicate_zero, Nat.reduceAdd, Nat.reduceSub]
      refine zz_cV2 dX10_largest_11 lX10_164 rfl (os_259 hO) rfl rfl (Nat.le_of_ble_eq_true rfl) (Nat.le_of_ble_eq_true rfl) ?_
      refine sp_X10_reaches hO hW sy rf 64 d I J _ set n hN hs (ct64 _) hn64 (fun r hr => ?_)
      try dsimp only [zz_s1, zz_s2, zz_kill, zz_ent, zz_fl, List.set_cons_zero, List.set_cons_succ, List.getElem?_cons_zero, List.getElem?_cons_succ, Option.toList_some, Option.toList_none, List.cons_append, List.nil_append, List.append_nil, List.length_cons, List.length_nil, List.replicate_succ, List.replicate_zero, Nat.reduceAdd, Nat.reduceSub]
      refine zz_if_ne (tgt := 23) dX10_largest_14 (by decide) (fun h => ?_) (fun h => ?_)
      · refine zz_iload_n rfl dX10_largest_23 ?_
        refine zz_ireturn dX10_largest_24 rfl (by first | rfl | decide | assumption) ?_
        rw [show n = al N 64 (bl set) by omega]
        exact hQ
      · exact absurd (show n ≤ al N 64 (bl set) by omega) (hr.f h)
    | succ q ih =>
      intro n hn hn64
      refine zz_aload_n rfl dX10_largest_8 ?_
      refine zz_lload_n rfl dX10_largest_9 ?_
      refine zz_iload_n rfl dX10_largest_10 ?_
      try dsimp only [zz_s1, zz_s2, zz_kill, zz_ent, zz_fl, List.set_cons_zero, List.set_cons_succ, List.getElem?_cons_zero, List.getElem?_cons_succ, Option.toList_some, Option.toList_none, List.cons_append, List.nil_append, List.append_nil, List.length_cons, List.length_nil, List.replicate_succ, List.replicate_zero, Nat.reduceAdd, Nat.reduceSub]
      refine zz_cV2 dX10_largest_11 lX10_164 rfl (os_259 hO) rfl rfl (Nat.le_of_ble_eq_true rfl) (Nat.le_of_ble_eq_true rfl) ?_
      refine sp_X10_reaches hO hW sy rf 64 d I J _ set n hN hs (ct64 _) hn64 (fun r hr => ?_)
      try dsimp only [zz_s1, zz_s2, zz_kill, zz_ent, zz_fl, List.set_cons_zero, List.set_cons_succ, List.getElem?_cons_zero, List.getElem?_cons_succ, Option.toList_some, Option.toList_none, List.cons_append, List.nil_append, List.append_nil, List.length_cons, List.length_nil, List.replicate_succ, List.replicate_zero, Nat.reduceAdd, Nat.reduceSub]
      refine zz_if_ne (tgt := 23) dX10_largest_14 (by decide) (fun h => ?_) (fun h => ?_)
      · exact absurd (hr.t h) (by omega)
      · skip
        refine zz_iinc dX10_largest_17 rfl (congrArg (HAdd.hAdd _) (show Int32.ofInt (-1) = (-1) by decide)) (by decide) ?_
        refine zz_goto (tgt := 8) dX10_largest_20 (by decide) ?_
        try dsimp only [zz_s1, zz_s2, zz_kill, zz_ent, zz_fl, List.set_cons_zero, List.set_cons_succ, List.getElem?_cons_zero, List.getElem?_cons_succ, Option.toList_some, Option.toList_none, List.cons_append, List.nil_append, List.append_nil, List.length_cons, List.length_nil, List.replicate_succ, List.replicate_zero, Nat.reduceAdd, Nat.reduceSub]
        rw [show n = (n - 1) + 1 by omega, nI_dn]
        exact ih (n - 1) (by omega) (by omega)
  exact loop (c - al N 64 (bl set)) c (by omega) k1
end PReachM

