/-! ===== the class's search: explore ===== -/
theorem ct4 {B : Nat → Bool} {a b c e : Nat} (ha : a < 64) (hb : b < 64) (hc : c < 64) (he : e < 64) (a1 : B a = true) (b1 : B b = true) (c1 : B c = true) (e1 : B e = true) (ab : a ≠ b) (ac : a ≠ c) (ae : a ≠ e) (bc : b ≠ c) (be : b ≠ e) (ce : c ≠ e) : 4 ≤ fb_ct B 64 := by
  have h1 := ct_rm ha a1
  have h2 := ct_rm (A := rm B a) hb (rm_t.mpr ⟨b1, ab.symm⟩)
  have h3 := ct_rm (A := rm (rm B a) b) hc (rm_t.mpr ⟨rm_t.mpr ⟨c1, ac.symm⟩, bc.symm⟩)
  have h4 := ct_rm (A := rm (rm (rm B a) b) c) he (rm_t.mpr ⟨rm_t.mpr ⟨rm_t.mpr ⟨e1, ae.symm⟩, be.symm⟩, ce.symm⟩)
  omega
/-- when nothing can be spared, nothing is lone and no word has more than two others near it, rings alone are left -/
theorem ring_all {N : Nat → Nat → Bool} {A1 A2 : Nat → Bool} (sy : ∀ x y, N x y = N y x) (rf : ∀ x, N x x = true) (h2 : ∀ v, A2 v = true ↔ A1 v = true ∧ ¬ (∀ w, A1 w = true → N v w = true → w = v)) (hs : ∀ v, A1 v = true → ¬ spd N A1 v) (hd : ∀ u, A2 u = true → fb_ct (fun w => A2 w && N u w) 64 ≤ 3) (hA : ∀ w, A2 w = true → w < 64) : ∀ u, A2 u = true → ∃ x y, d2 N A2 u x y := by
  intro u hu
  obtain ⟨u1, u2⟩ := (h2 u).mp hu
  have up : ∀ x, A1 x = true → N u x = true → x ≠ u → A2 x = true := fun x a b c => (h2 x).mpr ⟨a, fun z => c (z u u1 (by rw [sy]; exact b)).symm⟩
  have ex : ∃ x, A1 x = true ∧ N u x = true ∧ x ≠ u := Classical.byContradiction fun q => u2 fun w a b => Classical.byContradiction fun c => q ⟨w, a, b, c⟩
  obtain ⟨x, x1, x2, x3⟩ := ex
  have ey : ∃ y, A1 y = true ∧ N u y = true ∧ y ≠ u ∧ y ≠ x := Classical.byContradiction fun q => hs x x1 ⟨u, u1, x3.symm, by rw [sy]; exact x2, fun w a b => by
    by_cases c : w = u
    · rw [c, sy]; exact x2
    · by_cases e : w = x
      · rw [e]; exact rf x
      · exact absurd ⟨w, a, b, c, e⟩ q⟩
  obtain ⟨y, y1, y2, y3, y4⟩ := ey
  refine ⟨x, y, y4.symm, x3, y3, up x x1 x2 x3, up y y1 y2 y3, x2, y2, fun w a b c => Classical.byContradiction fun q => ?_⟩
  have w1 : w ≠ x := fun e => q (Or.inl e)
  have w2 : w ≠ y := fun e => q (Or.inr e)
  have xx := up x x1 x2 x3
  have yy := up y y1 y2 y3
  have := ct4 (B := fun w => A2 w && N u w) (hA u hu) (hA x xx) (hA y yy) (hA w a) (by simp [hu, rf]) (by simp [xx, x2]) (by simp [yy, y2]) (by simp [a, c]) x3.symm y3.symm b.symm y4.symm w1.symm w2.symm
  have := hd u hu
  omega
/-- a code found -/
def xV (N : Nat → Nat → Bool) (C O : Nat → Bool) (s : Nat) (f : Int64) : Prop := fb_ct (bl f) 64 = s ∧ ind N (bl f) ∧ (∀ w, C w = true → bl f w = true) ∧ ∀ w, bl f w = true → C w = true ∨ O w = true
/-- what explore does -/
def XS (M : zz_M) (W : Nat) (N : Nat → Nat → Bool) (c : Nat) : Prop := ∀ (d : Nat) (I : zz_I) (J : zz_J) (Q : zz_Q) (op ch : Int64) (dep s e : Nat), NB J W N → sb op W → ind N (bl ch) → (∀ x y, bl ch x = true → bl op y = true → N x y = false) → fb_ct (bl op) 64 ≤ c → dep + fb_ct (bl op) 64 ≤ 64 → I 8 3 = nI s → I 8 4 = nI e → s ≤ 64 → e ≤ 64 →
  (∀ (I' : zz_I) (J' : zz_J) (s' : Nat), (∀ a, a ≠ 8 → I' a = I a) → (∀ i, i ≠ 3 → I' 8 i = I 8 i) → (∀ a, a ≠ 8 → J' a = J a) → I' 8 3 = nI s' → s' ≤ 64 → ((s' = s ∧ J' 8 2 = J 8 2) ∨ (s < s' ∧ xV N (bl ch) (bl op) s' (J' 8 2))) → (e ≤ s' ∨ fb_ct (bl ch) 64 + al N 64 (bl op) ≤ s') → Q none M I' J') →
  zz_D mX1_explore (d + c + 4) [.ref 8, .long op, .long ch, .int (nI dep)] M I J Q
section PExplore
variable {M : zz_M} {W : Nat} {N : Nat → Nat → Bool}
theorem XS_body (hO : OK M) (hW : W ≤ 64) (sy : ∀ x y, N x y = N y x) (rf : ∀ x, N x x = true) (c : Nat) (rec : ∀ c', c = c' + 1 → XS M W N c') : XS M W N c := by
  intro d I J Q op ch dep s e hN hop hch hco hcc hdep hs he hs64 he64 hQ
  have v16 : ∀ v, v < W → vp_in (nI v) 64 := fun v hv => vp_in_nI (by omega) (by decide)
  refine zz_D_of rfl (Nat.le_of_ble_eq_true rfl) ?_
  try dsimp only [zz_s1, zz_s2, zz_kill, zz_ent, zz_fl, List.set_cons_zero, List.set_cons_succ, List.getElem?_cons_zero, List.getElem?_cons_succ, Option.toList_some, Option.toList_none, List.cons_append, List.nil_append, List.append_nil, List.length_cons, List.length_nil, List.replicate_succ, List.replicate_zero, Nat.reduceAdd, Nat.reduceSub]
  refine zz_iload rfl dX1_explore_0 ?_
  refine zz_bipush (v := 64) (by decide) dX1_explore_2 ?_
  try dsimp only [zz_s1, zz_s2, zz_kill, zz_ent, zz_fl, List.set_cons_zero, List.set_cons_succ, List.getElem?_cons_zero, List.getElem?_cons_succ, Option.toList_some, Option.toList_none, List.cons_append, List.nil_append, List.append_nil, List.length_cons, List.length_nil, List.replicate_succ, List.replicate_zero, Nat.reduceAdd, Nat.reduceSub]
  refine zz_icmp_le (tgt := 8) dX1_explore_4 (by decide) (fun h0 => ?_) (fun h0 => ?_)
  rotate_left
  · exact absurd (nI_le (a := dep) (b := 64) (by omega) (by decide)) h0
  refine zz_lload_n rfl dX1_explore_8 ?_
  refine zz_lstore dX1_explore_9 (by decide) ?_
  refine zz_lload_n rfl dX1_explore_11 ?_
  refine zz_lstore dX1_explore_12 (by decide) ?_
  refine zz_iconst (v := 0) (by decide) dX1_explore_14 ?_
  refine zz_istore dX1_explore_15 (by decide) ?_
  try dsimp only [zz_s1, zz_s2, zz_kill, zz_ent, zz_fl, List.set_cons_zero, List.set_cons_succ, List.getElem?_cons_zero, List.getElem?_cons_succ, Option.toList_some, Option.toList_none, List.cons_append, List.nil_append, List.append_nil, List.length_cons, List.length_nil, List.replicate_succ, List.replicate_zero, Nat.reduceAdd, Nat.reduceSub]
  have loop : ∀ (q turn : Nat) (Ix : zz_I) (Jx : zz_J) (free code : Int64) (s1 : Nat) (z11 z13 z14 : Option Value), turn + q = 65 → fb_ct (bl free) 64 < q → (∀ a, a ≠ 8 → Ix a = I a) → (∀ i, i ≠ 3 → Ix 8 i = I 8 i) → (∀ a, a ≠ 8 → Jx a = J a) → Ix 8 3 = nI s1 → s1 ≤ 64 → (∀ w, bl free w = true → bl op w = true) → ind N (bl code) → (∀ x y, bl code x = true → bl free y = true → N x y = false) → (∀ w, bl ch w = true → bl code w = true) → (∀ w, bl code w = true → bl ch w = true ∨ bl op w = true) → ((s1 = s ∧ Jx 8 2 = J 8 2) ∨ (s < s1 ∧ xV N (bl ch) (bl op) s1 (Jx 8 2))) → (e ≤ s1 ∨ fb_ct (bl ch) 64 + al N 64 (bl op) ≤ max s1 (fb_ct (bl code) 64 + al N 64 (bl free))) → zz_G mX1_explore (d + c + 4) 0 17 [some (.ref 8), some (.long op), none, some (.long ch), none, some (.int (nI dep)), some (.long free), none, some (.long code), none, some (.int (nI turn)), z11, none, z13, z14, none] [] M Ix Jx Q := by
    intro q
    induction q with
    | zero =>
      intro turn Ix Jx free code s1 z11 z13 z14 _ hlt
      omega
    | succ q ih =>
      intro turn Ix Jx free code s1 z11 z13 z14 ht hlt f1 f2 f3 f4 f5 g1 g2 g3 g4 g5 g6 g7
      have hNx : NB Jx W N := fun v hv w hw => by rw [f3 9 (by decide)]; exact hN v hv w hw
      have hfr : sb free W := fun w hw => hop w (g1 w hw)
      have e84 : Ix 8 4 = nI e := by rw [f2 4 (by decide)]; exact he
      refine zz_iload rfl dX1_explore_17 ?_
      refine zz_bipush (v := 64) (by decide) dX1_explore_19 ?_
      try dsimp only [zz_s1, zz_s2, zz_kill, zz_ent, zz_fl, List.set_cons_zero, List.set_cons_succ, List.getElem?_cons_zero, List.getElem?_cons_succ, Option.toList_some, Option.toList_none, List.cons_append, List.nil_append, List.append_nil, List.length_cons, List.length_nil, List.replicate_succ, List.replicate_zero, Nat.reduceAdd, Nat.reduceSub]
      refine zz_icmp_gt (tgt := 213) dX1_explore_21 (by decide) (fun h1 => ?_) (fun h1 => ?_)
      · exact absurd h1 (Int32.not_lt.mpr (nI_le (a := turn) (b := 64) (by omega) (by decide)))
      refine zz_aload_n rfl dX1_explore_24 ?_
      refine zz_geti dX1_explore_25 fX1_23 rfl (os_8 hO) ?_
      refine zz_aload_n rfl dX1_explore_28 ?_
      refine zz_geti dX1_explore_29 fX1_26 rfl (os_8 hO) ?_
      try dsimp only [zz_s1, zz_s2, zz_kill, zz_ent, zz_fl, List.set_cons_zero, List.set_cons_succ, List.getElem?_cons_zero, List.getElem?_cons_succ, Option.toList_some, Option.toList_none, List.cons_append, List.nil_append, List.append_nil, List.length_cons, List.length_nil, List.replicate_succ, List.replicate_zero, Nat.reduceAdd, Nat.reduceSub]
      rw [f4, e84]
      refine zz_icmp_ge (tgt := 213) dX1_explore_32 (by decide) (fun h2 => ?_) (fun h2 => ?_)
      · refine zz_return dX1_explore_213 rfl ?_
        exact hQ Ix Jx s1 f1 f2 f3 f4 f5 g6 (Or.inl ((nI_leI (by omega) (by omega)).mp h2))
      have hse : s1 < e := Nat.lt_of_not_le fun z => h2 (nI_le z (by omega))
      replace g7 := g7.elim (fun z => absurd z (by omega)) id
      refine zz_aload_n rfl dX1_explore_35 ?_
      refine zz_lload rfl dX1_explore_36 ?_
      try dsimp only [zz_s1, zz_s2, zz_kill, zz_ent, zz_fl, List.set_cons_zero, List.set_cons_succ, List.getElem?_cons_zero, List.getElem?_cons_succ, Option.toList_some, Option.toList_none, List.cons_append, List.nil_append, List.append_nil, List.length_cons, List.length_nil, List.replicate_succ, List.replicate_zero, Nat.reduceAdd, Nat.reduceSub]
      refine zz_cV1 dX1_explore_38 lX1_66 rfl (os_8 hO) rfl rfl (Nat.le_of_ble_eq_true rfl) (Nat.le_of_ble_eq_true rfl) ?_
      refine sp_needed (d + c) hO hW sy rf hNx hfr (fun fr1 n1 n2 n3 => ?_)
      try dsimp only [zz_s1, zz_s2, zz_kill, zz_ent, zz_fl, List.set_cons_zero, List.set_cons_succ, List.getElem?_cons_zero, List.getElem?_cons_succ, Option.toList_some, Option.toList_none, List.cons_append, List.nil_append, List.append_nil, List.length_cons, List.length_nil, List.replicate_succ, List.replicate_zero, Nat.reduceAdd, Nat.reduceSub]
      have hfr1 : sb fr1 W := fun w hw => hfr w (n1 w hw)
      refine zz_lstore dX1_explore_41 (by decide) ?_
      refine zz_aload_n rfl dX1_explore_43 ?_
      refine zz_lload rfl dX1_explore_44 ?_
      try dsimp only [zz_s1, zz_s2, zz_kill, zz_ent, zz_fl, List.set_cons_zero, List.set_cons_succ, List.getElem?_cons_zero, List.getElem?_cons_succ, Option.toList_some, Option.toList_none, List.cons_append, List.nil_append, List.append_nil, List.length_cons, List.length_nil, List.replicate_succ, List.replicate_zero, Nat.reduceAdd, Nat.reduceSub]
      refine zz_cV1 dX1_explore_46 lX1_70 rfl (os_8 hO) rfl rfl (Nat.le_of_ble_eq_true rfl) (Nat.le_of_ble_eq_true rfl) ?_
      refine sp_loneWords (d + c + 1) hO hW rf hNx hfr1 (fun lone l1 => ?_)
      try dsimp only [zz_s1, zz_s2, zz_kill, zz_ent, zz_fl, List.set_cons_zero, List.set_cons_succ, List.getElem?_cons_zero, List.getElem?_cons_succ, Option.toList_some, Option.toList_none, List.cons_append, List.nil_append, List.append_nil, List.length_cons, List.length_nil, List.replicate_succ, List.replicate_zero, Nat.reduceAdd, Nat.reduceSub]
      refine zz_lstore dX1_explore_49 (by decide) ?_
      refine zz_lload rfl dX1_explore_51 ?_
      refine zz_lload rfl dX1_explore_53 ?_
      refine zz_lor dX1_explore_55 ?_
      refine zz_lstore dX1_explore_56 (by decide) ?_
      refine zz_lload rfl dX1_explore_58 ?_
      refine zz_lload rfl dX1_explore_60 ?_
      refine zz_ldc2 tX1_41 dX1_explore_62 ?_
      refine zz_lxor dX1_explore_65 ?_
      refine zz_land dX1_explore_66 ?_
      refine zz_lstore dX1_explore_67 (by decide) ?_
      refine zz_lload rfl dX1_explore_69 ?_
      try dsimp only [zz_s1, zz_s2, zz_kill, zz_ent, zz_fl, List.set_cons_zero, List.set_cons_succ, List.getElem?_cons_zero, List.getElem?_cons_succ, Option.toList_some, Option.toList_none, List.cons_append, List.nil_append, List.append_nil, List.length_cons, List.length_nil, List.replicate_succ, List.replicate_zero, Nat.reduceAdd, Nat.reduceSub]
      have l2 := al_lone sy (i := 64) (A := bl fr1) (L := bl lone) (fun x hx => ((l1 x).mp hx).1) (fun x w hx hw hn => ((l1 x).mp hx).2 w hw hn)
      generalize hcode1 : code ||| lone = code1
      generalize hfr2 : fr1 &&& (lone ^^^ (-1)) = fr2
      have eb2 : bl fr2 = mi (bl fr1) (bl lone) := by rw [← hfr2, bm]
      have ec1 : ∀ w, bl code1 w = true ↔ bl code w = true ∨ bl lone w = true := fun w => by rw [← hcode1, bl_or, Bool.or_eq_true]
      have hct : fb_ct (bl code1) 64 = fb_ct (bl code) 64 + fb_ct (bl lone) 64 := by
        rw [← fb_ct_or (p := bl code) (q := bl lone) (fun k _ z => ?_)]
        · exact fb_ct_cong (fun k _ => by rw [← hcode1, bl_or])
        · have := g3 k k z.1 (n1 k ((l1 k).mp z.2).1)
          rw [rf] at this
          cases this
      rw [← eb2] at l2
      have i2 : ∀ w, bl fr2 w = true → bl fr1 w = true := fun w hw => by rw [eb2, mi_t] at hw; exact hw.1
      have i3 : ∀ w, bl fr2 w = true → bl op w = true := fun w hw => g1 w (n1 w (i2 w hw))
      have hfr2 : sb fr2 W := fun w hw => hfr1 w (i2 w hw)
      have k1 : ind N (bl code1) := by
        intro x y hx hy hne
        rcases (ec1 x).mp hx with a | a
        · rcases (ec1 y).mp hy with b | b
          · exact g2 x y a b hne
          · exact g3 x y a (n1 y ((l1 y).mp b).1)
        · rcases (ec1 y).mp hy with b | b
          · rw [sy]; exact g3 y x b (n1 x ((l1 x).mp a).1)
          · cases cN : N x y with
            | false => rfl
            | true => exact absurd (((l1 x).mp a).2 y ((l1 y).mp b).1 cN).symm hne
      have k2 : ∀ x y, bl code1 x = true → bl fr2 y = true → N x y = false := by
        intro x y hx hy
        rcases (ec1 x).mp hx with a | a
        · exact g3 x y a (n1 y (i2 y hy))
        · cases cN : N x y with
          | false => rfl
          | true =>
            have := ((l1 x).mp a).2 y (i2 y hy) cN
            rw [eb2, mi_t, this, a] at hy
            cases hy.2
      have k3 : ∀ w, bl ch w = true → bl code1 w = true := fun w hw => (ec1 w).mpr (Or.inl (g4 w hw))
      have k4 : ∀ w, bl code1 w = true → bl ch w = true ∨ bl op w = true := fun w hw => ((ec1 w).mp hw).elim (g5 w) (fun z => Or.inr (g1 w (n1 w ((l1 w).mp z).1)))
      have k5 : fb_ct (bl ch) 64 + al N 64 (bl op) ≤ max s1 (fb_ct (bl code1) 64 + al N 64 (bl fr2)) := by omega
      have cc2 : fb_ct (bl fr2) 64 ≤ fb_ct (bl free) 64 := fb_ct_sub (fun k _ z => n1 k (i2 k z))
      have cco : fb_ct (bl fr2) 64 ≤ fb_ct (bl op) 64 := fb_ct_sub (fun k _ z => i3 k z)
      have cod64 := ct64 code1
      refine zz_cS1 dX1_explore_71 lX1_73 rfl (Nat.le_of_ble_eq_true rfl) (Nat.le_of_ble_eq_true rfl) ?_
      refine sp_bitCountJ (d + c + 3) ?_
      try dsimp only [zz_s1, zz_s2, zz_kill, zz_ent, zz_fl, List.set_cons_zero, List.set_cons_succ, List.getElem?_cons_zero, List.getElem?_cons_succ, Option.toList_some, Option.toList_none, List.cons_append, List.nil_append, List.append_nil, List.length_cons, List.length_nil, List.replicate_succ, List.replicate_zero, Nat.reduceAdd, Nat.reduceSub]
      refine zz_aload_n rfl dX1_explore_74 ?_
      refine zz_lload rfl dX1_explore_75 ?_
      try dsimp only [zz_s1, zz_s2, zz_kill, zz_ent, zz_fl, List.set_cons_zero, List.set_cons_succ, List.getElem?_cons_zero, List.getElem?_cons_succ, Option.toList_some, Option.toList_none, List.cons_append, List.nil_append, List.append_nil, List.length_cons, List.length_nil, List.replicate_succ, List.replicate_zero, Nat.reduceAdd, Nat.reduceSub]
      refine zz_cV1 dX1_explore_77 lX1_79 rfl (os_8 hO) rfl rfl (Nat.le_of_ble_eq_true rfl) (Nat.le_of_ble_eq_true rfl) ?_
      refine sp_groups (d + c + 1) hO hW sy hNx hfr2 (fun g gr1 gr2 => ?_)
      try dsimp only [zz_s1, zz_s2, zz_kill, zz_ent, zz_fl, List.set_cons_zero, List.set_cons_succ, List.getElem?_cons_zero, List.getElem?_cons_succ, Option.toList_some, Option.toList_none, List.cons_append, List.nil_append, List.append_nil, List.length_cons, List.length_nil, List.replicate_succ, List.replicate_zero, Nat.reduceAdd, Nat.reduceSub]
      refine zz_iadd dX1_explore_80 ?_
      refine zz_aload_n rfl dX1_explore_81 ?_
      refine zz_geti dX1_explore_82 fX1_23 rfl (os_8 hO) ?_
      try dsimp only [zz_s1, zz_s2, zz_kill, zz_ent, zz_fl, List.set_cons_zero, List.set_cons_succ, List.getElem?_cons_zero, List.getElem?_cons_succ, Option.toList_some, Option.toList_none, List.cons_append, List.nil_append, List.append_nil, List.length_cons, List.length_nil, List.replicate_succ, List.replicate_zero, Nat.reduceAdd, Nat.reduceSub]
      rw [f4, nI_add]
      refine zz_icmp_gt (tgt := 89) dX1_explore_85 (by decide) (fun h3 => ?_) (fun h3 => ?_)
      rotate_left
      · refine zz_return dX1_explore_88 rfl ?_
        have h3' : fb_ct (bl code1) 64 + g ≤ s1 := Nat.le_of_not_lt fun z => h3 (nI_lt z (by have := ct64 fr2; omega))
        exact hQ Ix Jx s1 f1 f2 f3 f4 f5 g6 (Or.inr (by omega))
      have h3' : s1 < fb_ct (bl code1) 64 + g := (nI_ltI (by omega) (by have := ct64 fr2; omega)).mp h3
      refine zz_lload rfl dX1_explore_89 ?_
      refine zz_lconst (v := 0) (by decide) dX1_explore_91 ?_
      refine zz_lcmp dX1_explore_92 ?_
      try dsimp only [zz_s1, zz_s2, zz_kill, zz_ent, zz_fl, List.set_cons_zero, List.set_cons_succ, List.getElem?_cons_zero, List.getElem?_cons_succ, Option.toList_some, Option.toList_none, List.cons_append, List.nil_append, List.append_nil, List.length_cons, List.length_nil, List.replicate_succ, List.replicate_zero, Nat.reduceAdd, Nat.reduceSub]
      refine zz_if_ne (tgt := 112) dX1_explore_93 (by decide) (fun h4 => ?_) (fun h4 => ?_)
      rotate_left
      · skip
        have e0 : fr2 = 0 := cmp_eq.mp h4
        have z0 : fb_ct (bl fr2) 64 = 0 := by rw [e0]; exact fb_ct_zero.mpr (fun i _ => bl_0 i)
        have a0 : al N 64 (bl fr2) = 0 := al_0 (fun w _ => by rw [e0]; exact bl_0 w)
        refine zz_aload_n rfl dX1_explore_96 ?_
        refine zz_lload rfl dX1_explore_97 ?_
        refine zz_putl dX1_explore_99 fX1_19 rfl (fun q h => by cases h; rfl) (os_8 hO) ?_
        refine zz_aload_n rfl dX1_explore_102 ?_
        refine zz_lload rfl dX1_explore_103 ?_
        try dsimp only [zz_s1, zz_s2, zz_kill, zz_ent, zz_fl, List.set_cons_zero, List.set_cons_succ, List.getElem?_cons_zero, List.getElem?_cons_succ, Option.toList_some, Option.toList_none, List.cons_append, List.nil_append, List.append_nil, List.length_cons, List.length_nil, List.replicate_succ, List.replicate_zero, Nat.reduceAdd, Nat.reduceSub]
        refine zz_cS1 dX1_explore_105 lX1_73 rfl (Nat.le_of_ble_eq_true rfl) (Nat.le_of_ble_eq_true rfl) ?_
        refine sp_bitCountJ (d + c + 3) ?_
        try dsimp only [zz_s1, zz_s2, zz_kill, zz_ent, zz_fl, List.set_cons_zero, List.set_cons_succ, List.getElem?_cons_zero, List.getElem?_cons_succ, Option.toList_some, Option.toList_none, List.cons_append, List.nil_append, List.append_nil, List.length_cons, List.length_nil, List.replicate_succ, List.replicate_zero, Nat.reduceAdd, Nat.reduceSub]
        refine zz_puti dX1_explore_108 fX1_23 rfl (fun q h => by cases h; rfl) (os_8 hO) ?_
        refine zz_return dX1_explore_111 rfl ?_
        refine hQ _ _ (fb_ct (bl code1) 64) (fun a ha => ?_) (fun i hi => ?_) (fun a ha => ?_) ?_ cod64 (Or.inr ⟨?_, ?_⟩) (Or.inr (by omega))
        · rw [zz_ui_ne _ _ _ ha]; exact f1 a ha
        · rw [zz_ui_at, pk_un hi]; exact f2 i hi
        · rw [zz_uj_ne _ _ _ ha]; exact f3 a ha
        · rw [zz_ui_at, pk_us]
        · rcases g6 with z | z
          · omega
          · omega
        · rw [zz_uj_at, pk_uLs]
          exact ⟨rfl, k1, k3, k4⟩
      have hne : ¬ fr2 = 0 := fun z => h4 (cmp_eq.mpr z)
      refine zz_aload_n rfl dX1_explore_112 ?_
      refine zz_lload rfl dX1_explore_113 ?_
      try dsimp only [zz_s1, zz_s2, zz_kill, zz_ent, zz_fl, List.set_cons_zero, List.set_cons_succ, List.getElem?_cons_zero, List.getElem?_cons_succ, Option.toList_some, Option.toList_none, List.cons_append, List.nil_append, List.append_nil, List.length_cons, List.length_nil, List.replicate_succ, List.replicate_zero, Nat.reduceAdd, Nat.reduceSub]
      refine zz_cV1 dX1_explore_115 lX1_82 rfl (os_8 hO) rfl rfl (Nat.le_of_ble_eq_true rfl) (Nat.le_of_ble_eq_true rfl) ?_
      refine sp_busiest (d + c + 1) hO hW hNx hfr2 hne (fun v b1 b2 => ?_)
      try dsimp only [zz_s1, zz_s2, zz_kill, zz_ent, zz_fl, List.set_cons_zero, List.set_cons_succ, List.getElem?_cons_zero, List.getElem?_cons_succ, Option.toList_some, Option.toList_none, List.cons_append, List.nil_append, List.append_nil, List.length_cons, List.length_nil, List.replicate_succ, List.replicate_zero, Nat.reduceAdd, Nat.reduceSub]
      have hvW := hfr2 v b1
      have hv64 : v < 64 := by omega
      have hcv := ct_rm hv64 b1
      have hbr := al_br sy rf hv64 b1
      refine zz_istore dX1_explore_118 (by decide) ?_
      refine zz_lconst (v := 1) (by decide) dX1_explore_120 ?_
      refine zz_iload rfl dX1_explore_121 ?_
      refine zz_lshl dX1_explore_123 ?_
      refine zz_lstore dX1_explore_124 (by decide) ?_
      refine zz_lload rfl dX1_explore_126 ?_
      refine zz_aload_n rfl dX1_explore_128 ?_
      refine zz_getr dX1_explore_129 fX1_9 (fun _ _ _ _ => rfl) (os_8 hO) (or_8_0 hO) ?_
      refine zz_iload rfl dX1_explore_132 ?_
      refine zz_lald dX1_explore_134 (os_9 hO) (v16 v hvW) ?_
      refine zz_land dX1_explore_135 ?_
      try dsimp only [zz_s1, zz_s2, zz_kill, zz_ent, zz_fl, List.set_cons_zero, List.set_cons_succ, List.getElem?_cons_zero, List.getElem?_cons_succ, Option.toList_some, Option.toList_none, List.cons_append, List.nil_append, List.append_nil, List.length_cons, List.length_nil, List.replicate_succ, List.replicate_zero, Nat.reduceAdd, Nat.reduceSub]
      rw [nI_clamp (show v < 2 ^ 31 by omega)]
      refine zz_cS1 dX1_explore_136 lX1_73 rfl (Nat.le_of_ble_eq_true rfl) (Nat.le_of_ble_eq_true rfl) ?_
      refine sp_bitCountJ (d + c + 3) ?_
      try dsimp only [zz_s1, zz_s2, zz_kill, zz_ent, zz_fl, List.set_cons_zero, List.set_cons_succ, List.getElem?_cons_zero, List.getElem?_cons_succ, Option.toList_some, Option.toList_none, List.cons_append, List.nil_append, List.append_nil, List.length_cons, List.length_nil, List.replicate_succ, List.replicate_zero, Nat.reduceAdd, Nat.reduceSub]
      refine zz_iconst (v := 3) (by decide) dX1_explore_139 ?_
      try dsimp only [zz_s1, zz_s2, zz_kill, zz_ent, zz_fl, List.set_cons_zero, List.set_cons_succ, List.getElem?_cons_zero, List.getElem?_cons_succ, Option.toList_some, Option.toList_none, List.cons_append, List.nil_append, List.append_nil, List.length_cons, List.length_nil, List.replicate_succ, List.replicate_zero, Nat.reduceAdd, Nat.reduceSub]
      have c3 := ct64 (fr2 &&& Jx 9 v)
      have em : bl (fr2 &&& (Jx 9 v ^^^ (-1))) = mi (bl fr2) (N v) := by rw [bm, nbm hNx hfr2 hvW]
      have cm1 : fb_ct (mi (bl fr2) (N v)) 64 < fb_ct (bl fr2) 64 := ct_lt hv64 (fun w hw => (mi_t.mp hw).1) (by unfold mi; rw [rf]; simp) b1
      have ecw : ∀ w, bl (code1 ||| jv_lshl 1 (nI v)) w = true ↔ bl code1 w = true ∨ w = v := fun w => by rw [bl_or, bl_one' hv64, Bool.or_eq_true, decide_eq_true_eq]
      have cw : fb_ct (bl (code1 ||| jv_lshl 1 (nI v))) 64 = fb_ct (bl code1) 64 + 1 := by
        have hx : bl code1 v = false := by
          cases z : bl code1 v with
          | false => rfl
          | true => have := k2 v v z b1; rw [rf] at this; cases this
        have h1 := ct_rm (A := bl (code1 ||| jv_lshl 1 (nI v))) hv64 ((ecw v).mpr (Or.inr rfl))
        have h2 : fb_ct (rm (bl (code1 ||| jv_lshl 1 (nI v))) v) 64 = fb_ct (bl code1) 64 := fb_ct_cong (fun k _ => by
          rw [Bool.eq_iff_iff, rm_t, ecw]
          exact ⟨fun z => z.1.elim id (fun y => absurd y z.2), fun z => ⟨Or.inl z, fun y => by rw [y, hx] at z; cases z⟩⟩)
        omega
      have kw1 : ind N (bl (code1 ||| jv_lshl 1 (nI v))) := by
        intro x y hx hy hne2
        rcases (ecw x).mp hx with a | a
        · rcases (ecw y).mp hy with b | b
          · exact k1 x y a b hne2
          · rw [b]; exact k2 x v a b1
        · rcases (ecw y).mp hy with b | b
          · rw [a, sy]; exact k2 y v b b1
          · exact absurd (a.trans b.symm) hne2
      have kw2 : ∀ x y, bl (code1 ||| jv_lshl 1 (nI v)) x = true → mi (bl fr2) (N v) y = true → N x y = false := by
        intro x y hx hy
        rw [mi_t] at hy
        rcases (ecw x).mp hx with a | a
        · exact k2 x y a hy.1
        · rw [a]; exact hy.2
      refine zz_icmp_le (tgt := 184) dX1_explore_140 (by decide) (fun h5 => ?_) (fun h5 => ?_)
      · have h5' : fb_ct (bl (fr2 &&& Jx 9 v)) 64 ≤ 3 := (nI_leI (b := 3) (by omega) (by decide)).mp h5
        have hring := al_ring sy rf (i := 64) (A := bl fr2) (v := v) (fun w hw => bl_lt hw) b1 (ring_all (A1 := bl fr1) sy rf (fun w => by
          rw [eb2, mi_t]
          refine ⟨fun z => ⟨z.1, fun y => ?_⟩, fun z => ⟨z.1, ?_⟩⟩
          · rw [(l1 w).mpr ⟨z.1, y⟩] at z; cases z.2
          · cases y : bl lone w with
            | false => rfl
            | true => exact absurd ((l1 w).mp y).2 z.2) n3 (fun u hu => by
            have := b2 u hu
            have e : fb_ct (fun w => bl fr2 w && N u w) 64 = fb_ct (bl (fr2 &&& Jx 9 u)) 64 := fb_ct_cong (fun w _ => (nba hNx hfr2 (hfr2 u hu) w).symm)
            omega) (fun w hw => bl_lt hw))
        refine zz_lload rfl dX1_explore_184 ?_
        refine zz_lload rfl dX1_explore_186 ?_
        refine zz_lor dX1_explore_188 ?_
        refine zz_lstore dX1_explore_189 (by decide) ?_
        refine zz_lload rfl dX1_explore_191 ?_
        refine zz_aload_n rfl dX1_explore_193 ?_
        refine zz_getr dX1_explore_194 fX1_9 (fun _ _ _ _ => rfl) (os_8 hO) (or_8_0 hO) ?_
        refine zz_iload rfl dX1_explore_197 ?_
        refine zz_lald dX1_explore_199 (os_9 hO) (v16 v hvW) ?_
        refine zz_ldc2 tX1_41 dX1_explore_200 ?_
        refine zz_lxor dX1_explore_203 ?_
        refine zz_land dX1_explore_204 ?_
        refine zz_lstore dX1_explore_205 (by decide) ?_
        refine zz_iinc dX1_explore_207 rfl (congrArg (HAdd.hAdd _) (show Int32.ofInt 1 = 1 by decide)) (by decide) ?_
        refine zz_goto (tgt := 17) dX1_explore_210 (by decide) ?_
        try dsimp only [zz_s1, zz_s2, zz_kill, zz_ent, zz_fl, List.set_cons_zero, List.set_cons_succ, List.getElem?_cons_zero, List.getElem?_cons_succ, Option.toList_some, Option.toList_none, List.cons_append, List.nil_append, List.append_nil, List.length_cons, List.length_nil, List.replicate_succ, List.replicate_zero, Nat.reduceAdd, Nat.reduceSub]
        rw [nI_1, nI_clamp (show v < 2 ^ 31 by omega)]
        refine ih (turn + 1) Ix Jx _ _ s1 _ _ _ (by omega) (by rw [em]; omega) f1 f2 f3 f4 f5 (fun w hw => ?_) kw1 (fun x y hx hy => kw2 x y hx (by rw [em] at hy; exact hy)) (fun w hw => (ecw w).mpr (Or.inl (k3 w hw))) (fun w hw => ?_) g6 (Or.inr (by rw [em, cw]; omega))
        · rw [em, mi_t] at hw; exact i3 w hw.1
        · rcases (ecw w).mp hw with a | a
          · exact k4 w a
          · rw [a]; exact Or.inr (i3 v b1)
      · skip
        refine zz_aload_n rfl dX1_explore_143 ?_
        refine zz_lload rfl dX1_explore_144 ?_
        refine zz_aload_n rfl dX1_explore_146 ?_
        refine zz_getr dX1_explore_147 fX1_9 (fun _ _ _ _ => rfl) (os_8 hO) (or_8_0 hO) ?_
        refine zz_iload rfl dX1_explore_150 ?_
        refine zz_lald dX1_explore_152 (os_9 hO) (v16 v hvW) ?_
        refine zz_ldc2 tX1_41 dX1_explore_153 ?_
        refine zz_lxor dX1_explore_156 ?_
        refine zz_land dX1_explore_157 ?_
        refine zz_lload rfl dX1_explore_158 ?_
        refine zz_lload rfl dX1_explore_160 ?_
        refine zz_lor dX1_explore_162 ?_
        refine zz_iload rfl dX1_explore_163 ?_
        refine zz_iconst (v := 1) (by decide) dX1_explore_165 ?_
        refine zz_iadd dX1_explore_166 ?_
        try dsimp only [zz_s1, zz_s2, zz_kill, zz_ent, zz_fl, List.set_cons_zero, List.set_cons_succ, List.getElem?_cons_zero, List.getElem?_cons_succ, Option.toList_some, Option.toList_none, List.cons_append, List.nil_append, List.append_nil, List.length_cons, List.length_nil, List.replicate_succ, List.replicate_zero, Nat.reduceAdd, Nat.reduceSub]
        rw [nI_clamp (show v < 2 ^ 31 by omega), show nI dep + 1 = nI (dep + 1) from nI_1 dep]
        have hc0 : 1 ≤ c := by omega
        obtain ⟨c', rfl⟩ : ∃ c', c = c' + 1 := ⟨c - 1, by omega⟩
        refine zz_cV3 dX1_explore_167 lX1_58 rfl (os_8 hO) rfl rfl (Nat.le_of_ble_eq_true rfl) (Nat.le_of_ble_eq_true rfl) ?_
        refine rec c' rfl d Ix Jx _ _ _ (dep + 1) s1 e hNx (fun w hw => hfr2 w (by rw [em, mi_t] at hw; exact hw.1)) kw1 (fun x y hx hy => kw2 x y hx (by rw [em] at hy; exact hy)) (by rw [em]; omega) (by rw [em]; omega) f4 e84 f5 he64 (fun I' J' s2 p1 p2 p3 p4 p5 p6 p7 => ?_)
        try dsimp only [zz_s1, zz_s2, zz_kill, zz_ent, zz_fl, List.set_cons_zero, List.set_cons_succ, List.getElem?_cons_zero, List.getElem?_cons_succ, Option.toList_some, Option.toList_none, List.cons_append, List.nil_append, List.append_nil, List.length_cons, List.length_nil, List.replicate_succ, List.replicate_zero, Nat.reduceAdd, Nat.reduceSub]
        rw [em, cw] at p7
        have hs12 : s1 ≤ s2 := p6.elim (fun z => by omega) (fun z => by omega)
        refine zz_lload rfl dX1_explore_170 ?_
        refine zz_lload rfl dX1_explore_172 ?_
        refine zz_ldc2 tX1_41 dX1_explore_174 ?_
        refine zz_lxor dX1_explore_177 ?_
        refine zz_land dX1_explore_178 ?_
        refine zz_lstore dX1_explore_179 (by decide) ?_
        refine zz_goto (tgt := 207) dX1_explore_181 (by decide) ?_
        refine zz_iinc dX1_explore_207 rfl (congrArg (HAdd.hAdd _) (show Int32.ofInt 1 = 1 by decide)) (by decide) ?_
        refine zz_goto (tgt := 17) dX1_explore_210 (by decide) ?_
        try dsimp only [zz_s1, zz_s2, zz_kill, zz_ent, zz_fl, List.set_cons_zero, List.set_cons_succ, List.getElem?_cons_zero, List.getElem?_cons_succ, Option.toList_some, Option.toList_none, List.cons_append, List.nil_append, List.append_nil, List.length_cons, List.length_nil, List.replicate_succ, List.replicate_zero, Nat.reduceAdd, Nat.reduceSub]
        rw [nI_1]
        refine ih (turn + 1) I' J' _ code1 s2 _ _ _ (by omega) (by rw [br1 _ hv64]; omega) (fun a ha => (p1 a ha).trans (f1 a ha)) (fun i hi => (p2 i hi).trans (f2 i hi)) (fun a ha => (p3 a ha).trans (f3 a ha)) p4 p5 (fun w hw => ?_) k1 (fun x y hx hy => k2 x y hx (by rw [br1 _ hv64, rm_t] at hy; exact hy.1)) k3 k4 ?_ ?_
        · rw [br1 _ hv64, rm_t] at hw; exact i3 w hw.1
        · rcases p6 with z | z
          · rcases g6 with y | y
            · exact Or.inl ⟨z.1.trans y.1, z.2.trans y.2⟩
            · rw [z.1, z.2]; exact Or.inr y
          · refine Or.inr ⟨?_, z.2.1, z.2.2.1, fun w hw => z.2.2.2.1 w ((ecw w).mpr (Or.inl (k3 w hw))), fun w hw => ?_⟩
            · rcases g6 with y | y
              · omega
              · omega
            · rcases z.2.2.2.2 w hw with y | y
              · rcases (ecw w).mp y with x | x
                · exact k4 w x
                · rw [x]; exact Or.inr (i3 v b1)
              · rw [em, mi_t] at y; exact Or.inr (i3 w y.1)
        · rw [br1 _ hv64]
          rcases p7 with z | z
          · exact Or.inl z
          · exact Or.inr (by omega)
  have hop64 := ct64 op
  exact loop 65 0 I J op ch s _ _ _ (by omega) (by omega) (fun _ _ => rfl) (fun _ _ => rfl) (fun _ _ => rfl) hs hs64 (fun _ z => z) hch hco (fun _ z => z) (fun _ z => Or.inl z) (Or.inl ⟨rfl, rfl⟩) (Or.inr (by omega))
theorem sp_explore (hO : OK M) (hW : W ≤ 64) (sy : ∀ x y, N x y = N y x) (rf : ∀ x, N x x = true) : ∀ c, XS M W N c
  | 0 => XS_body hO hW sy rf 0 (fun c' h => by omega)
  | c + 1 => XS_body hO hW sy rf (c + 1) (fun c' h => by cases h; exact sp_explore hO hW sy rf c)
end PExplore

