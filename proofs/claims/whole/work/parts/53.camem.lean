/-! ===== came: the calls ===== -/
theorem cm_y {p : Nat → Bool} {ws : Nat → Nat} {s0 : Int32} {i : Nat} (h : p (ws i) = true) : cm p ws s0 (i + 1) = ((cm p ws s0 i).1 + 1, if (cm p ws s0 i).1 = 0 then nI (ws i) else (cm p ws s0 i).2) := by
  show (if _ then _ else _) = _
  rw [if_pos h]
theorem cm_n {p : Nat → Bool} {ws : Nat → Nat} {s0 : Int32} {i : Nat} (h : ¬ p (ws i) = true) : cm p ws s0 (i + 1) = cm p ws s0 i := by
  show (if _ then _ else _) = _
  rw [if_neg h]
section PCame2
variable {M : zz_M} {I : zz_I} {J : zz_J} {Q : zz_Q} {nn : Nat → Nat} {kd ag : Nat → Int32} {E : Nat → Nat → Nat → Bool} {sg : Nat → Nat → Int32} {rw : Nat → Nat → Nat → Int32}
theorem sp_X9_came (d : Nat) (hO : OK M) {l : Int32} {n sz k : Nat} {by_ ws : Nat → Nat} (hn : I 2 1 = nI n) (hn2 : n ≤ 600) (hby : ∀ i, i < n → by_ i < 256 ∧ I 3 i = nI (by_ i)) (hnn : ∀ j, j < 8 → 1 ≤ nn j ∧ nn j ≤ 24) (hC : ∀ j, j < 8 → CL I j (nn j) (kd j) (ag j) (E j) (sg j) (rw j))
    (hcd : ∀ j, j < 8 → I 24 3 = nI j → I 24 1 = nI sz ∧ sz ≤ 64 ∧ I 24 2 = nI k ∧ k ≤ 6 ∧ ∀ i, i < sz → ws i < 2 ^ 31 ∧ I 25 i = nI (ws i))
    (h1 : ∀ j, j < 8 → l = nI j → ∀ I' : zz_I, (∀ c, c ≠ 1 → c ≠ 2 → c ≠ 5 → I' c = I c) → I' 2 1 = 0 → (∀ i, i ≠ 12 → I' 1 i = I 1 i) → I' 1 12 = (caR (kd j) (ag j) (I 24 3) (I 24 4) l by_ n k sz ws (nn j) (sg j) (I 1 12)).2 → Q (some (.int (caR (kd j) (ag j) (I 24 3) (I 24 4) l by_ n k sz ws (nn j) (sg j) (I 1 12)).1)) M I' J)
    (h2 : ¬ vp_in l 8 → ∀ I' : zz_I, (∀ c, c ≠ 2 → c ≠ 5 → I' c = I c) → I' 2 1 = 0 → Q (some (.int (-2))) M I' J) : zz_D mX9_came (d + 2) [.ref 1, .int l] M I J Q := by
  refine zz_D_of rfl (Nat.le_of_ble_eq_true rfl) ?_
  try dsimp only [zz_s1, zz_s2, zz_kill, zz_ent, zz_fl, List.set_cons_zero, List.set_cons_succ, List.getElem?_cons_zero, List.getElem?_cons_succ, Option.toList_some, Option.toList_none, List.cons_append, List.nil_append, List.append_nil, List.length_cons, List.length_nil, List.replicate_succ, List.replicate_zero, Nat.reduceAdd, Nat.reduceSub]
  refine zz_aload_n rfl dX9_came_0 ?_
  refine zz_getr dX9_came_1 fX9_19 (fun _ _ _ _ => rfl) (os_1 hO) (or_1_1 hO) ?_
  refine zz_aload_n rfl dX9_came_4 ?_
  refine zz_getr dX9_came_5 fX9_10 (fun _ _ _ _ => rfl) (os_1 hO) (or_1_0 hO) ?_
  try dsimp only [zz_s1, zz_s2, zz_kill, zz_ent, zz_fl, List.set_cons_zero, List.set_cons_succ, List.getElem?_cons_zero, List.getElem?_cons_succ, Option.toList_some, Option.toList_none, List.cons_append, List.nil_append, List.append_nil, List.length_cons, List.length_nil, List.replicate_succ, List.replicate_zero, Nat.reduceAdd, Nat.reduceSub]
  have rest : ∀ (s : Int32) (I1 : zz_I), (∀ c, c ≠ 5 → I1 c = I c) → ((∃ L, rsg by_ n 0 [] = some L ∧ L.length ≤ 6 ∧ s = nI L.length ∧ ∀ i, i < L.length → I1 5 i = sbit (L.getD i 0)) ∨ (s = -1 ∧ ∀ L, rsg by_ n 0 [] = some L → 6 < L.length)) → zz_G mX9_came (d + 2) 0 11 [some (.ref 1), some (.int l), none, none, none, none] [.int s] M I1 J Q := by
    intro s I1 g1 g2
    refine zz_istore_n dX9_came_11 (by decide) ?_
    refine zz_aload_n rfl dX9_came_12 ?_
    refine zz_getr dX9_came_13 fX9_10 (fun _ _ _ _ => rfl) (os_1 hO) (or_1_0 hO) ?_
    try dsimp only [zz_s1, zz_s2, zz_kill, zz_ent, zz_fl, List.set_cons_zero, List.set_cons_succ, List.getElem?_cons_zero, List.getElem?_cons_succ, Option.toList_some, Option.toList_none, List.cons_append, List.nil_append, List.append_nil, List.length_cons, List.length_nil, List.replicate_succ, List.replicate_zero, Nat.reduceAdd, Nat.reduceSub]
    refine zz_cV0 dX9_came_16 lX9_124 rfl (os_2 hO) rfl rfl (Nat.le_of_ble_eq_true rfl) (Nat.le_of_ble_eq_true rfl) ?_
    refine sp_X7_empty (d + 1) hO ?_
    try dsimp only [zz_s1, zz_s2, zz_kill, zz_ent, zz_fl, List.set_cons_zero, List.set_cons_succ, List.getElem?_cons_zero, List.getElem?_cons_succ, Option.toList_some, Option.toList_none, List.cons_append, List.nil_append, List.append_nil, List.length_cons, List.length_nil, List.replicate_succ, List.replicate_zero, Nat.reduceAdd, Nat.reduceSub]
    generalize hI2 : zz_ui I1 2 1 0 = I2
    have e2 : ∀ c, c ≠ 2 → c ≠ 5 → I2 c = I c := fun c c1 c2 => by rw [← hI2, zz_ui_ne _ _ _ c1]; exact g1 c c2
    have e21 : I2 2 1 = 0 := by rw [← hI2]; simp [zz_ui_at, upd]
    have e5 : I2 5 = I1 5 := by rw [← hI2, zz_ui_ne _ _ _ (by decide)]
    refine zz_aload_n rfl dX9_came_19 ?_
    refine zz_iload_n rfl dX9_came_20 ?_
    try dsimp only [zz_s1, zz_s2, zz_kill, zz_ent, zz_fl, List.set_cons_zero, List.set_cons_succ, List.getElem?_cons_zero, List.getElem?_cons_succ, Option.toList_some, Option.toList_none, List.cons_append, List.nil_append, List.append_nil, List.length_cons, List.length_nil, List.replicate_succ, List.replicate_zero, Nat.reduceAdd, Nat.reduceSub]
    refine zz_cV1 dX9_came_21 lX9_100 rfl (os_1 hO) rfl rfl (Nat.le_of_ble_eq_true rfl) (Nat.le_of_ble_eq_true rfl) ?_
    refine sp_lineAt (d + 1) hO (fun j hj e => ?_) (fun hv => ?_)
    try dsimp only [zz_s1, zz_s2, zz_kill, zz_ent, zz_fl, List.set_cons_zero, List.set_cons_succ, List.getElem?_cons_zero, List.getElem?_cons_succ, Option.toList_some, Option.toList_none, List.cons_append, List.nil_append, List.append_nil, List.length_cons, List.length_nil, List.replicate_succ, List.replicate_zero, Nat.reduceAdd, Nat.reduceSub]
    · skip
      have hL5 : 26 < LN j := by unfold LN; omega
      have hc := hC j hj
      have hnj := hnn j hj
      have eL : ∀ c, LN j ≤ c → I2 c = I c := fun c hc => e2 c (by omega) (by omega)
      have stt : ¬ (kd j = 1 ∧ I 24 3 = l ∧ I 24 4 = ag j) → zz_G mX9_came (d + 2) 0 65 [some (.ref 1), some (.int l), some (.int s), some (.ref (LN j)), none, none] [] M I2 J Q := by
        intro hb
        have hq := h1 j hj e I2 (fun c c1 c2 c3 => e2 c c2 c3) e21 (fun i hi => by rw [e2 1 (by decide) (by decide)])
        unfold caR at hq
        rw [if_neg hb] at hq
        refine zz_bipush (v := (-4)) (by decide) dX9_came_65 ?_
        refine zz_ireturn dX9_came_67 rfl (by first | rfl | decide | assumption) ?_
        exact hq (by rw [e2 1 (by decide) (by decide)])
      refine zz_astore_n dX9_came_24 (by decide) ?_
      refine zz_aload_n rfl dX9_came_25 ?_
      try dsimp only [zz_s1, zz_s2, zz_kill, zz_ent, zz_fl, List.set_cons_zero, List.set_cons_succ, List.getElem?_cons_zero, List.getElem?_cons_succ, Option.toList_some, Option.toList_none, List.cons_append, List.nil_append, List.append_nil, List.length_cons, List.length_nil, List.replicate_succ, List.replicate_zero, Nat.reduceAdd, Nat.reduceSub]
      refine zz_ifnonnull (tgt := 32) dX9_came_26 (by decide) ?_
      refine zz_aload_n rfl dX9_came_32 ?_
      refine zz_geti dX9_came_33 fX9_111 rfl (ol_obj hO hj) ?_
      refine zz_iconst (v := 1) (by decide) dX9_came_36 ?_
      try dsimp only [zz_s1, zz_s2, zz_kill, zz_ent, zz_fl, List.set_cons_zero, List.set_cons_succ, List.getElem?_cons_zero, List.getElem?_cons_succ, Option.toList_some, Option.toList_none, List.cons_append, List.nil_append, List.append_nil, List.length_cons, List.length_nil, List.replicate_succ, List.replicate_zero, Nat.reduceAdd, Nat.reduceSub]
      rw [eL _ (Nat.le_refl _), hc.1]
      refine zz_icmp_ne (tgt := 65) dX9_came_37 (by decide) (fun a1 => ?_) (fun a1 => ?_)
      · exact stt fun z => a1 z.1
      refine zz_aload_n rfl dX9_came_40 ?_
      refine zz_getr dX9_came_41 fX9_71 (fun _ _ _ _ => rfl) (os_1 hO) (or_1_9 hO) ?_
      refine zz_geti dX9_came_44 fX9_261 rfl (os_24 hO) ?_
      refine zz_iload_n rfl dX9_came_47 ?_
      try dsimp only [zz_s1, zz_s2, zz_kill, zz_ent, zz_fl, List.set_cons_zero, List.set_cons_succ, List.getElem?_cons_zero, List.getElem?_cons_succ, Option.toList_some, Option.toList_none, List.cons_append, List.nil_append, List.append_nil, List.length_cons, List.length_nil, List.replicate_succ, List.replicate_zero, Nat.reduceAdd, Nat.reduceSub]
      rw [e2 24 (by decide) (by decide)]
      refine zz_icmp_ne (tgt := 65) dX9_came_48 (by decide) (fun a2 => ?_) (fun a2 => ?_)
      · exact stt fun z => a2 z.2.1
      refine zz_aload_n rfl dX9_came_51 ?_
      refine zz_getr dX9_came_52 fX9_71 (fun _ _ _ _ => rfl) (os_1 hO) (or_1_9 hO) ?_
      refine zz_geti dX9_came_55 fX9_264 rfl (os_24 hO) ?_
      refine zz_aload_n rfl dX9_came_58 ?_
      refine zz_geti dX9_came_59 fX9_196 rfl (ol_obj hO hj) ?_
      try dsimp only [zz_s1, zz_s2, zz_kill, zz_ent, zz_fl, List.set_cons_zero, List.set_cons_succ, List.getElem?_cons_zero, List.getElem?_cons_succ, Option.toList_some, Option.toList_none, List.cons_append, List.nil_append, List.append_nil, List.length_cons, List.length_nil, List.replicate_succ, List.replicate_zero, Nat.reduceAdd, Nat.reduceSub]
      rw [e2 24 (by decide) (by decide), eL _ (Nat.le_refl _), hc.2.2.1]
      refine zz_icmp_eq (tgt := 68) dX9_came_62 (by decide) (fun a3 => ?_) (fun a3 => ?_)
      rotate_left
      · exact stt fun z => a3 z.2.2
      have a1' : kd j = 1 := a1
      have a2' : I 24 3 = l := a2
      obtain ⟨k1, k2, k3, k4, k5⟩ := hcd j hj (a2'.trans e)
      have hq : ∀ I' : zz_I, (∀ c, c ≠ 1 → c ≠ 2 → c ≠ 5 → I' c = I c) → I' 2 1 = 0 → (∀ i, i ≠ 12 → I' 1 i = I 1 i) → I' 1 12 = (match rsg by_ n 0 [] with | some L => if L.length = k then (nI (cm (mkB (nn j) (sg j) L k) ws (I 1 12) sz).1, (cm (mkB (nn j) (sg j) L k) ws (I 1 12) sz).2) else (-1, I 1 12) | none => (-1, I 1 12)).2 → Q (some (.int (match rsg by_ n 0 [] with | some L => if L.length = k then (nI (cm (mkB (nn j) (sg j) L k) ws (I 1 12) sz).1, (cm (mkB (nn j) (sg j) L k) ws (I 1 12) sz).2) else (-1, I 1 12) | none => ((-1 : Int32), I 1 12)).1)) M I' J := by
        intro I' f1 f2 f3 f4
        have := h1 j hj e I' f1 f2 f3
        unfold caR at this
        rw [if_pos ⟨a1', a2', a3⟩] at this
        exact this f4
      refine zz_iload_n rfl dX9_came_68 ?_
      refine zz_aload_n rfl dX9_came_69 ?_
      refine zz_getr dX9_came_70 fX9_71 (fun _ _ _ _ => rfl) (os_1 hO) (or_1_9 hO) ?_
      refine zz_geti dX9_came_73 fX9_265 rfl (os_24 hO) ?_
      try dsimp only [zz_s1, zz_s2, zz_kill, zz_ent, zz_fl, List.set_cons_zero, List.set_cons_succ, List.getElem?_cons_zero, List.getElem?_cons_succ, Option.toList_some, Option.toList_none, List.cons_append, List.nil_append, List.append_nil, List.length_cons, List.length_nil, List.replicate_succ, List.replicate_zero, Nat.reduceAdd, Nat.reduceSub]
      rw [e2 24 (by decide) (by decide), k3]
      have none_ : (∀ L, rsg by_ n 0 [] = some L → ¬ L.length = k) → Q (some (.int (-1))) M I2 J := by
        intro hb
        cases hp : rsg by_ n 0 [] with
        | none =>
          rw [hp] at hq
          exact hq I2 (fun c c1 c2 c3 => e2 c c2 c3) e21 (fun i hi => by rw [e2 1 (by decide) (by decide)]) (by rw [e2 1 (by decide) (by decide)])
        | some L =>
          rw [hp] at hq
          dsimp only at hq
          rw [if_neg (hb L hp)] at hq
          exact hq I2 (fun c c1 c2 c3 => e2 c c2 c3) e21 (fun i hi => by rw [e2 1 (by decide) (by decide)]) (by rw [e2 1 (by decide) (by decide)])
      refine zz_icmp_eq (tgt := 81) dX9_came_76 (by decide) (fun a4 => ?_) (fun a4 => ?_)
      rotate_left
      · refine zz_iconst (v := (-1)) (by decide) dX9_came_79 ?_
        refine zz_ireturn dX9_came_80 rfl (by first | rfl | decide | assumption) ?_
        refine none_ (fun L hL z => ?_)
        rcases g2 with ⟨L', q1, q2, q3, q4⟩ | ⟨q1, q2⟩
        · rw [hL] at q1
          cases q1
          exact a4 (by rw [q3, z])
        · have := q2 L hL
          omega
      rcases g2 with ⟨L, q1, q2, q3, q4⟩ | ⟨q1, q2⟩
      rotate_left
      · exfalso
        rw [q1] at a4
        have := congrArg Int32.toInt a4
        rw [nI_toInt (by omega)] at this
        have e1 : (-1 : Int32).toInt = -1 := by decide
        omega
      have eLk : L.length = k := (nI_eq (by omega) (by omega)).mp (q3.symm.trans a4)
      rw [q1] at hq
      dsimp only at hq
      rw [if_pos eLk] at hq
      dsimp only at hq
      refine zz_iconst (v := 0) (by decide) dX9_came_81 ?_
      refine zz_istore dX9_came_82 (by decide) ?_
      refine zz_iconst (v := 0) (by decide) dX9_came_84 ?_
      refine zz_istore dX9_came_85 (by decide) ?_
      try dsimp only [zz_s1, zz_s2, zz_kill, zz_ent, zz_fl, List.set_cons_zero, List.set_cons_succ, List.getElem?_cons_zero, List.getElem?_cons_succ, Option.toList_some, Option.toList_none, List.cons_append, List.nil_append, List.append_nil, List.length_cons, List.length_nil, List.replicate_succ, List.replicate_zero, Nat.reduceAdd, Nat.reduceSub]
      have loop : ∀ (q i : Nat) (Ix : zz_I), i + q = sz → (∀ c, c ≠ 1 → Ix c = I2 c) → (∀ i, i ≠ 12 → Ix 1 i = I 1 i) → Ix 1 12 = (cm (mkB (nn j) (sg j) L k) ws (I 1 12) i).2 → zz_G mX9_came (d + 2) 0 87 [some (.ref 1), some (.int l), some (.int s), some (.ref (LN j)), some (.int (nI (cm (mkB (nn j) (sg j) L k) ws (I 1 12) i).1)), some (.int (nI i))] [] M Ix J Q := by
        intro q
        induction q with
        | zero =>
          intro i Ix hi f1 f2 f3
          have ei : i = sz := by omega
          subst ei
          refine zz_iload rfl dX9_came_87 ?_
          refine zz_aload_n rfl dX9_came_89 ?_
          refine zz_getr dX9_came_90 fX9_71 (fun _ _ _ _ => rfl) (os_1 hO) (or_1_9 hO) ?_
          refine zz_geti dX9_came_93 fX9_203 rfl (os_24 hO) ?_
          try dsimp only [zz_s1, zz_s2, zz_kill, zz_ent, zz_fl, List.set_cons_zero, List.set_cons_succ, List.getElem?_cons_zero, List.getElem?_cons_succ, Option.toList_some, Option.toList_none, List.cons_append, List.nil_append, List.append_nil, List.length_cons, List.length_nil, List.replicate_succ, List.replicate_zero, Nat.reduceAdd, Nat.reduceSub]
          rw [f1 24 (by decide), e2 24 (by decide) (by decide), k1]
          refine zz_icmp_ge (tgt := 145) dX9_came_96 (by decide) (fun h5 => ?_) (fun h5 => ?_)
          · refine zz_iload rfl dX9_came_145 ?_
            refine zz_ireturn dX9_came_147 rfl (by first | rfl | decide | assumption) ?_
            exact hq Ix (fun c c1 c2 c3 => by rw [f1 c c1]; exact e2 c c2 c3) (by rw [f1 2 (by decide)]; exact e21) f2 f3
          · exact absurd (nI_le (Nat.le_refl i) (by omega)) h5
        | succ q ih =>
          intro i Ix hi f1 f2 f3
          have hwi := k5 i (by omega)
          have hcl := cm_le (mkB (nn j) (sg j) L k) ws (I 1 12) i
          have e23 : Ix 25 i = nI (ws i) := by rw [f1 25 (by decide), e2 25 (by decide) (by decide)]; exact hwi.2
          refine zz_iload rfl dX9_came_87 ?_
          refine zz_aload_n rfl dX9_came_89 ?_
          refine zz_getr dX9_came_90 fX9_71 (fun _ _ _ _ => rfl) (os_1 hO) (or_1_9 hO) ?_
          refine zz_geti dX9_came_93 fX9_203 rfl (os_24 hO) ?_
          try dsimp only [zz_s1, zz_s2, zz_kill, zz_ent, zz_fl, List.set_cons_zero, List.set_cons_succ, List.getElem?_cons_zero, List.getElem?_cons_succ, Option.toList_some, Option.toList_none, List.cons_append, List.nil_append, List.append_nil, List.length_cons, List.length_nil, List.replicate_succ, List.replicate_zero, Nat.reduceAdd, Nat.reduceSub]
          rw [f1 24 (by decide), e2 24 (by decide) (by decide), k1]
          refine zz_icmp_ge (tgt := 145) dX9_came_96 (by decide) (fun h5 => ?_) (fun h5 => ?_)
          · exact absurd h5 (nI_ge (by omega) (by omega))
          · skip
            refine zz_aload_n rfl dX9_came_99 ?_
            refine zz_aload_n rfl dX9_came_100 ?_
            refine zz_aload_n rfl dX9_came_101 ?_
            refine zz_getr dX9_came_102 fX9_71 (fun _ _ _ _ => rfl) (os_1 hO) (or_1_9 hO) ?_
            refine zz_getr dX9_came_105 fX9_206 (fun _ _ _ _ => rfl) (os_24 hO) (or_24_0 hO) ?_
            refine zz_iload rfl dX9_came_108 ?_
            refine zz_iald dX9_came_110 (os_25 hO) (vp_in_nI (show i < 64 by omega) (by decide)) ?_
            try dsimp only [zz_s1, zz_s2, zz_kill, zz_ent, zz_fl, List.set_cons_zero, List.set_cons_succ, List.getElem?_cons_zero, List.getElem?_cons_succ, Option.toList_some, Option.toList_none, List.cons_append, List.nil_append, List.append_nil, List.length_cons, List.length_nil, List.replicate_succ, List.replicate_zero, Nat.reduceAdd, Nat.reduceSub]
            rw [nI_clamp (show i < 2 ^ 31 by omega), e23]
            refine zz_cV2 dX9_came_111 lX9_266 rfl (os_1 hO) rfl rfl (Nat.le_of_ble_eq_true rfl) (Nat.le_of_ble_eq_true rfl) ?_
            refine sp_couldMake d hO (L := L) (sg := sg j) hj hnj.1 hnj.2 (by rw [f1 _ (by omega), eL _ (Nat.le_refl _)]; exact hc.2.1) (fun a ha => by rw [f1 _ (by omega), eL _ (by omega)]; exact hc.2.2.2.2.1 a ha) k4 (by rw [f1 24 (by decide), e2 24 (by decide) (by decide)]; exact k3) (fun i hi => by rw [f1 5 (by decide), e5]; exact q4 i (by omega)) hwi.1 (fun r hr => ?_)
            try dsimp only [zz_s1, zz_s2, zz_kill, zz_ent, zz_fl, List.set_cons_zero, List.set_cons_succ, List.getElem?_cons_zero, List.getElem?_cons_succ, Option.toList_some, Option.toList_none, List.cons_append, List.nil_append, List.append_nil, List.length_cons, List.length_nil, List.replicate_succ, List.replicate_zero, Nat.reduceAdd, Nat.reduceSub]
            refine zz_if_eq (tgt := 139) dX9_came_114 (by decide) (fun h6 => ?_) (fun h6 => ?_)
            · have hn := cm_n (s0 := I 1 12) (hr.f h6)
              refine zz_iinc dX9_came_139 rfl (congrArg (HAdd.hAdd _) (show Int32.ofInt 1 = 1 by decide)) (by decide) ?_
              refine zz_goto (tgt := 87) dX9_came_142 (by decide) ?_
              try dsimp only [zz_s1, zz_s2, zz_kill, zz_ent, zz_fl, List.set_cons_zero, List.set_cons_succ, List.getElem?_cons_zero, List.getElem?_cons_succ, Option.toList_some, Option.toList_none, List.cons_append, List.nil_append, List.append_nil, List.length_cons, List.length_nil, List.replicate_succ, List.replicate_zero, Nat.reduceAdd, Nat.reduceSub]
              rw [nI_1]
              rw [← hn]
              exact ih (i + 1) Ix (by omega) f1 f2 (by rw [hn]; exact f3)
            · skip
              have hy := cm_y (s0 := I 1 12) (hr.t h6)
              refine zz_iload rfl dX9_came_117 ?_
              try dsimp only [zz_s1, zz_s2, zz_kill, zz_ent, zz_fl, List.set_cons_zero, List.set_cons_succ, List.getElem?_cons_zero, List.getElem?_cons_succ, Option.toList_some, Option.toList_none, List.cons_append, List.nil_append, List.append_nil, List.length_cons, List.length_nil, List.replicate_succ, List.replicate_zero, Nat.reduceAdd, Nat.reduceSub]
              refine zz_if_ne (tgt := 136) dX9_came_119 (by decide) (fun h7 => ?_) (fun h7 => ?_)
              · have ne : ¬ (cm (mkB (nn j) (sg j) L k) ws (I 1 12) i).1 = 0 := fun z => h7 (by rw [z]; rfl)
                rw [if_neg ne] at hy
                refine zz_iinc dX9_came_136 rfl (congrArg (HAdd.hAdd _) (show Int32.ofInt 1 = 1 by decide)) (by decide) ?_
                refine zz_iinc dX9_came_139 rfl (congrArg (HAdd.hAdd _) (show Int32.ofInt 1 = 1 by decide)) (by decide) ?_
                refine zz_goto (tgt := 87) dX9_came_142 (by decide) ?_
                try dsimp only [zz_s1, zz_s2, zz_kill, zz_ent, zz_fl, List.set_cons_zero, List.set_cons_succ, List.getElem?_cons_zero, List.getElem?_cons_succ, Option.toList_some, Option.toList_none, List.cons_append, List.nil_append, List.append_nil, List.length_cons, List.length_nil, List.replicate_succ, List.replicate_zero, Nat.reduceAdd, Nat.reduceSub]
                rw [nI_1, nI_1]
                have hx := ih (i + 1) Ix (by omega) f1 f2 (by rw [hy]; exact f3)
                rw [hy] at hx
                exact hx
              · skip
                have ez : (cm (mkB (nn j) (sg j) L k) ws (I 1 12) i).1 = 0 := (nI_eq (b := 0) (by omega) (by decide)).mp h7
                rw [if_pos ez] at hy
                refine zz_aload_n rfl dX9_came_122 ?_
                refine zz_aload_n rfl dX9_came_123 ?_
                refine zz_getr dX9_came_124 fX9_71 (fun _ _ _ _ => rfl) (os_1 hO) (or_1_9 hO) ?_
                refine zz_getr dX9_came_127 fX9_206 (fun _ _ _ _ => rfl) (os_24 hO) (or_24_0 hO) ?_
                refine zz_iload rfl dX9_came_130 ?_
                refine zz_iald dX9_came_132 (os_25 hO) (vp_in_nI (show i < 64 by omega) (by decide)) ?_
                refine zz_puti dX9_came_133 fX9_82 rfl (fun q h => by cases h; rfl) (os_1 hO) ?_
                refine zz_iinc dX9_came_136 rfl (congrArg (HAdd.hAdd _) (show Int32.ofInt 1 = 1 by decide)) (by decide) ?_
                refine zz_iinc dX9_came_139 rfl (congrArg (HAdd.hAdd _) (show Int32.ofInt 1 = 1 by decide)) (by decide) ?_
                refine zz_goto (tgt := 87) dX9_came_142 (by decide) ?_
                try dsimp only [zz_s1, zz_s2, zz_kill, zz_ent, zz_fl, List.set_cons_zero, List.set_cons_succ, List.getElem?_cons_zero, List.getElem?_cons_succ, Option.toList_some, Option.toList_none, List.cons_append, List.nil_append, List.append_nil, List.length_cons, List.length_nil, List.replicate_succ, List.replicate_zero, Nat.reduceAdd, Nat.reduceSub]
                rw [nI_1, nI_1, nI_clamp (show i < 2 ^ 31 by omega), e23]
                have hx := ih (i + 1) (zz_ui Ix 1 12 (nI (ws i))) (by omega) (fun c c1 => by rw [zz_ui_ne _ _ _ c1]; exact f1 c c1) (fun i i1 => by rw [zz_ui_at, pk_un i1]; exact f2 i i1) (by rw [hy, zz_ui_at, pk_us])
                rw [hy] at hx
                exact hx
      exact loop sz 0 I2 (by omega) (fun _ _ => rfl) (fun i _ => by rw [e2 1 (by decide) (by decide)]) (by rw [e2 1 (by decide) (by decide)]; rfl)
    · try dsimp only [zz_s1, zz_s2, zz_kill, zz_ent, zz_fl, List.set_cons_zero, List.set_cons_succ, List.getElem?_cons_zero, List.getElem?_cons_succ, Option.toList_some, Option.toList_none, List.cons_append, List.nil_append, List.append_nil, List.length_cons, List.length_nil, List.replicate_succ, List.replicate_zero, Nat.reduceAdd, Nat.reduceSub]
      refine zz_nstore_n dX9_came_24 (by decide) ?_
      refine zz_nload_n rfl dX9_came_25 ?_
      try dsimp only [zz_s1, zz_s2, zz_kill, zz_ent, zz_fl, List.set_cons_zero, List.set_cons_succ, List.getElem?_cons_zero, List.getElem?_cons_succ, Option.toList_some, Option.toList_none, List.cons_append, List.nil_append, List.append_nil, List.length_cons, List.length_nil, List.replicate_succ, List.replicate_zero, Nat.reduceAdd, Nat.reduceSub]
      refine zz_ifnonnullN dX9_came_26 ?_
      try dsimp only [zz_s1, zz_s2, zz_kill, zz_ent, zz_fl, List.set_cons_zero, List.set_cons_succ, List.getElem?_cons_zero, List.getElem?_cons_succ, Option.toList_some, Option.toList_none, List.cons_append, List.nil_append, List.append_nil, List.length_cons, List.length_nil, List.replicate_succ, List.replicate_zero, Nat.reduceAdd, Nat.reduceSub]
      refine zz_bipush (v := (-2)) (by decide) dX9_came_29 ?_
      refine zz_ireturn dX9_came_31 rfl (by first | rfl | decide | assumption) ?_
      exact h2 hv I2 e2 e21
  refine zz_cV1 dX9_came_8 lX9_257 rfl (os_4 hO) rfl rfl (Nat.le_of_ble_eq_true rfl) (Nat.le_of_ble_eq_true rfl) ?_
  refine sp_readSigns d hO hn hn2 hby (fun L z1 z2 I1 z3 z4 => ?_) (fun z1 I1 z2 => ?_)
  try dsimp only [zz_s1, zz_s2, zz_kill, zz_ent, zz_fl, List.set_cons_zero, List.set_cons_succ, List.getElem?_cons_zero, List.getElem?_cons_succ, Option.toList_some, Option.toList_none, List.cons_append, List.nil_append, List.append_nil, List.length_cons, List.length_nil, List.replicate_succ, List.replicate_zero, Nat.reduceAdd, Nat.reduceSub]
  · exact rest _ I1 z3 (Or.inl ⟨L, z1, z2, rfl, z4⟩)
  · exact rest _ I1 z2 (Or.inr ⟨rfl, z1⟩)
theorem sp_X10_came (d : Nat) (hO : OK M) {l : Int32} {n sz k : Nat} {by_ ws : Nat → Nat} (hn : I 259 7 = nI n) (hn2 : n ≤ 600) (hby : ∀ i, i < n → by_ i < 256 ∧ I 266 i = jv_b (nI (by_ i))) (hnn : ∀ j, j < 8 → 1 ≤ nn j ∧ nn j ≤ 24) (hC : ∀ j, j < 8 → ML I j (nn j) (kd j) (ag j) (E j) (sg j) (rw j))
    (hcd : ∀ j, j < 8 → I 259 17 = nI j → I 259 15 = nI sz ∧ sz ≤ 64 ∧ I 259 16 = nI k ∧ k ≤ 6 ∧ ∀ i, i < sz → ws i < 2 ^ 31 ∧ I 270 i = nI (ws i))
    (h1 : ∀ j, j < 8 → l = nI j → ∀ I' : zz_I, (∀ c, c ≠ 259 → c ≠ 267 → I' c = I c) → I' 259 7 = 0 → (∀ i, i ≠ 7 → i ≠ 29 → I' 259 i = I 259 i) → I' 259 29 = (caR (kd j) (ag j) (I 259 17) (I 259 18) l by_ n k sz ws (nn j) (sg j) (I 259 29)).2 → Q (some (.int (caR (kd j) (ag j) (I 259 17) (I 259 18) l by_ n k sz ws (nn j) (sg j) (I 259 29)).1)) M I' J)
    (h2 : ¬ vp_in l 8 → Q (some (.int (-2))) M (zz_ui I 259 7 0) J) : zz_D mX10_came (d + 2) [.ref 259, .int l] M I J Q := by
  refine zz_D_of rfl (Nat.le_of_ble_eq_true rfl) ?_
  try dsimp only [zz_s1, zz_s2, zz_kill, zz_ent, zz_fl, List.set_cons_zero, List.set_cons_succ, List.getElem?_cons_zero, List.getElem?_cons_succ, Option.toList_some, Option.toList_none, List.cons_append, List.nil_append, List.append_nil, List.length_cons, List.length_nil, List.replicate_succ, List.replicate_zero, Nat.reduceAdd, Nat.reduceSub]
  refine zz_aload_n rfl dX10_came_0 ?_
  refine zz_geti dX10_came_1 fX10_93 rfl (os_259 hO) ?_
  refine zz_istore_n dX10_came_4 (by decide) ?_
  refine zz_aload_n rfl dX10_came_5 ?_
  refine zz_iconst (v := 0) (by decide) dX10_came_6 ?_
  refine zz_puti dX10_came_7 fX10_93 rfl (fun q h => by cases h; rfl) (os_259 hO) ?_
  refine zz_iload_n rfl dX10_came_10 ?_
  try dsimp only [zz_s1, zz_s2, zz_kill, zz_ent, zz_fl, List.set_cons_zero, List.set_cons_succ, List.getElem?_cons_zero, List.getElem?_cons_succ, Option.toList_some, Option.toList_none, List.cons_append, List.nil_append, List.append_nil, List.length_cons, List.length_nil, List.replicate_succ, List.replicate_zero, Nat.reduceAdd, Nat.reduceSub]
  rw [hn]
  generalize hI2 : zz_ui I 259 7 0 = I2
  have e2 : ∀ c, c ≠ 259 → I2 c = I c := fun c c1 => by rw [← hI2, zz_ui_ne _ _ _ c1]
  have e7 : ∀ i, i ≠ 7 → I2 259 i = I 259 i := fun i i1 => by rw [← hI2, zz_ui_at, pk_un i1]
  have e70 : I2 259 7 = 0 := by rw [← hI2, zz_ui_at, pk_us]
  refine zz_cS1 dX10_came_11 lX10_85 rfl (Nat.le_of_ble_eq_true rfl) (Nat.le_of_ble_eq_true rfl) ?_
  refine sp_isLine d (fun r hr => ?_)
  try dsimp only [zz_s1, zz_s2, zz_kill, zz_ent, zz_fl, List.set_cons_zero, List.set_cons_succ, List.getElem?_cons_zero, List.getElem?_cons_succ, Option.toList_some, Option.toList_none, List.cons_append, List.nil_append, List.append_nil, List.length_cons, List.length_nil, List.replicate_succ, List.replicate_zero, Nat.reduceAdd, Nat.reduceSub]
  refine zz_if_ne (tgt := 20) dX10_came_14 (by decide) (fun h => ?_) (fun h => ?_)
  rotate_left
  · refine zz_bipush (v := (-2)) (by decide) dX10_came_17 ?_
    refine zz_ireturn dX10_came_19 rfl (by first | rfl | decide | assumption) ?_
    rw [← hI2]
    exact h2 (hr.f h)
  obtain ⟨j, hj, rfl⟩ := vp_in_of (hr.t h) (by decide)
  have hc := hC j hj
  have hnj := hnn j hj
  have v1 : vp_in (nI j) 8 := vp_in_nI hj (by decide)
  have cl1 : (nI j).toNatClampNeg = j := nI_clamp (by omega)
  have stt : ¬ (kd j = 1 ∧ I 259 17 = nI j ∧ I 259 18 = ag j) → zz_G mX10_came (d + 2) 0 51 [some (.ref 259), some (.int (nI j)), some (.int (nI n)), none, none, none, none, none, none] [] M I2 J Q := by
    intro hb
    have hq := h1 j hj rfl I2 (fun c c1 c2 => e2 c c1) e70 (fun i hi _ => e7 i hi)
    unfold caR at hq
    rw [if_neg hb] at hq
    refine zz_bipush (v := (-4)) (by decide) dX10_came_51 ?_
    refine zz_ireturn dX10_came_53 rfl (by first | rfl | decide | assumption) ?_
    exact hq (e7 29 (by decide))
  refine zz_aload_n rfl dX10_came_20 ?_
  refine zz_getr dX10_came_21 fX10_13 (fun _ _ _ _ => rfl) (os_259 hO) (or_259_1 hO) ?_
  refine zz_iload_n rfl dX10_came_24 ?_
  refine zz_iald dX10_came_25 (os_261 hO) v1 ?_
  refine zz_iconst (v := 1) (by decide) dX10_came_26 ?_
  try dsimp only [zz_s1, zz_s2, zz_kill, zz_ent, zz_fl, List.set_cons_zero, List.set_cons_succ, List.getElem?_cons_zero, List.getElem?_cons_succ, Option.toList_some, Option.toList_none, List.cons_append, List.nil_append, List.append_nil, List.length_cons, List.length_nil, List.replicate_succ, List.replicate_zero, Nat.reduceAdd, Nat.reduceSub]
  rw [cl1, e2 261 (by decide), hc.1]
  refine zz_icmp_ne (tgt := 51) dX10_came_27 (by decide) (fun a1 => ?_) (fun a1 => ?_)
  · exact stt fun z => a1 z.1
  refine zz_aload_n rfl dX10_came_30 ?_
  refine zz_geti dX10_came_31 fX10_55 rfl (os_259 hO) ?_
  refine zz_iload_n rfl dX10_came_34 ?_
  try dsimp only [zz_s1, zz_s2, zz_kill, zz_ent, zz_fl, List.set_cons_zero, List.set_cons_succ, List.getElem?_cons_zero, List.getElem?_cons_succ, Option.toList_some, Option.toList_none, List.cons_append, List.nil_append, List.append_nil, List.length_cons, List.length_nil, List.replicate_succ, List.replicate_zero, Nat.reduceAdd, Nat.reduceSub]
  rw [e7 17 (by decide)]
  refine zz_icmp_ne (tgt := 51) dX10_came_35 (by decide) (fun a2 => ?_) (fun a2 => ?_)
  · exact stt fun z => a2 z.2.1
  refine zz_aload_n rfl dX10_came_38 ?_
  refine zz_geti dX10_came_39 fX10_178 rfl (os_259 hO) ?_
  refine zz_aload_n rfl dX10_came_42 ?_
  refine zz_getr dX10_came_43 fX10_25 (fun _ _ _ _ => rfl) (os_259 hO) (or_259_5 hO) ?_
  refine zz_iload_n rfl dX10_came_46 ?_
  refine zz_iald dX10_came_47 (os_265 hO) v1 ?_
  try dsimp only [zz_s1, zz_s2, zz_kill, zz_ent, zz_fl, List.set_cons_zero, List.set_cons_succ, List.getElem?_cons_zero, List.getElem?_cons_succ, Option.toList_some, Option.toList_none, List.cons_append, List.nil_append, List.append_nil, List.length_cons, List.length_nil, List.replicate_succ, List.replicate_zero, Nat.reduceAdd, Nat.reduceSub]
  rw [cl1, e7 18 (by decide), e2 265 (by decide), hc.2.2.1]
  refine zz_icmp_eq (tgt := 54) dX10_came_48 (by decide) (fun a3 => ?_) (fun a3 => ?_)
  rotate_left
  · exact stt fun z => a3 z.2.2
  have a1' : kd j = 1 := a1
  have a2' : I 259 17 = nI j := a2
  obtain ⟨k1, k2, k3, k4, k5⟩ := hcd j hj a2'
  have hq : ∀ I' : zz_I, (∀ c, c ≠ 259 → c ≠ 267 → I' c = I c) → I' 259 7 = 0 → (∀ i, i ≠ 7 → i ≠ 29 → I' 259 i = I 259 i) → I' 259 29 = (match rsg by_ n 0 [] with | some L => if L.length = k then (nI (cm (mkB (nn j) (sg j) L k) ws (I 259 29) sz).1, (cm (mkB (nn j) (sg j) L k) ws (I 259 29) sz).2) else (-1, I 259 29) | none => (-1, I 259 29)).2 → Q (some (.int (match rsg by_ n 0 [] with | some L => if L.length = k then (nI (cm (mkB (nn j) (sg j) L k) ws (I 259 29) sz).1, (cm (mkB (nn j) (sg j) L k) ws (I 259 29) sz).2) else (-1, I 259 29) | none => ((-1 : Int32), I 259 29)).1)) M I' J := by
    intro I' f1 f2 f3 f4
    have := h1 j hj rfl I' f1 f2 f3
    unfold caR at this
    rw [if_pos ⟨a1', a2', a3⟩] at this
    exact this f4
  have none_ : ∀ Ix : zz_I, (∀ c, c ≠ 267 → Ix c = I2 c) → (∀ L, rsg by_ n 0 [] = some L → ¬ L.length = k) → Q (some (.int (-1))) M Ix J := by
    intro Ix y1 hb
    have y2 : ∀ c, c ≠ 259 → c ≠ 267 → Ix c = I c := fun c c1 c2 => by rw [y1 c c2]; exact e2 c c1
    have y3 : Ix 259 = I2 259 := y1 259 (by decide)
    cases hp : rsg by_ n 0 [] with
    | none =>
      rw [hp] at hq
      exact hq Ix y2 (by rw [y3]; exact e70) (fun i hi _ => by rw [y3]; exact e7 i hi) (by rw [y3]; exact e7 29 (by decide))
    | some L =>
      rw [hp] at hq
      dsimp only at hq
      rw [if_neg (hb L hp)] at hq
      exact hq Ix y2 (by rw [y3]; exact e70) (fun i hi _ => by rw [y3]; exact e7 i hi) (by rw [y3]; exact e7 29 (by decide))
  generalize hP : rsg by_ n 0 [] = P0 at hq none_
  refine zz_iconst (v := 0) (by decide) dX10_came_54 ?_
  refine zz_istore_n dX10_came_55 (by decide) ?_
  refine zz_iconst (v := 0) (by decide) dX10_came_56 ?_
  refine zz_istore dX10_came_57 (by decide) ?_
  try dsimp only [zz_s1, zz_s2, zz_kill, zz_ent, zz_fl, List.set_cons_zero, List.set_cons_succ, List.getElem?_cons_zero, List.getElem?_cons_succ, Option.toList_some, Option.toList_none, List.cons_append, List.nil_append, List.append_nil, List.length_cons, List.length_nil, List.replicate_succ, List.replicate_zero, Nat.reduceAdd, Nat.reduceSub]
  have search : ∀ (L : List Nat) (Ix : zz_I) (z4 z5 z6 z7 z8 : Option Value), P0 = some L → L.length = k → (∀ c, c ≠ 267 → Ix c = I2 c) → (∀ i, i < L.length → Ix 267 i = nI (L.getD i 0 - 97)) → zz_G mX10_came (d + 2) 0 145 [some (.ref 259), some (.int (nI j)), some (.int (nI n)), some (.int (nI k)), z4, z5, z6, z7, z8] [] M Ix J Q := by
    intro L Iz z4 z5 z6 z7 z8 hL eLk w1 w2
    have hax := rsg_ax by_ n 0 [] L (fun i hi => absurd hi (by simp)) (hP.trans hL)
    rw [hL] at hq
    dsimp only at hq
    rw [if_pos eLk] at hq
    dsimp only at hq
    have w3 : ∀ i, i ≠ 7 → Iz 259 i = I 259 i := fun i hi => by rw [w1 259 (by decide)]; exact e7 i hi
    refine zz_iconst (v := 0) (by decide) dX10_came_145 ?_
    refine zz_istore dX10_came_146 (by decide) ?_
    refine zz_iconst (v := 0) (by decide) dX10_came_148 ?_
    refine zz_istore dX10_came_149 (by decide) ?_
    try dsimp only [zz_s1, zz_s2, zz_kill, zz_ent, zz_fl, List.set_cons_zero, List.set_cons_succ, List.getElem?_cons_zero, List.getElem?_cons_succ, Option.toList_some, Option.toList_none, List.cons_append, List.nil_append, List.append_nil, List.length_cons, List.length_nil, List.replicate_succ, List.replicate_zero, Nat.reduceAdd, Nat.reduceSub]
    have loop : ∀ (q i : Nat) (Ix : zz_I) (z6 z7 z8 : Option Value), i + q = sz → (∀ c, c ≠ 259 → Ix c = Iz c) → (∀ i, i ≠ 29 → Ix 259 i = Iz 259 i) → Ix 259 29 = (cm (mkB (nn j) (sg j) L k) ws (I 259 29) i).2 → zz_G mX10_came (d + 2) 0 151 [some (.ref 259), some (.int (nI j)), some (.int (nI n)), some (.int (nI k)), some (.int (nI (cm (mkB (nn j) (sg j) L k) ws (I 259 29) i).1)), some (.int (nI i)), z6, z7, z8] [] M Ix J Q := by
      intro q
      induction q with
      | zero =>
        intro i Ix z6 z7 z8 hi f1 f2 f3
        have ei : i = sz := by omega
        subst ei
        refine zz_iload rfl dX10_came_151 ?_
        refine zz_aload_n rfl dX10_came_153 ?_
        refine zz_geti dX10_came_154 fX10_49 rfl (os_259 hO) ?_
        try dsimp only [zz_s1, zz_s2, zz_kill, zz_ent, zz_fl, List.set_cons_zero, List.set_cons_succ, List.getElem?_cons_zero, List.getElem?_cons_succ, Option.toList_some, Option.toList_none, List.cons_append, List.nil_append, List.append_nil, List.length_cons, List.length_nil, List.replicate_succ, List.replicate_zero, Nat.reduceAdd, Nat.reduceSub]
        rw [f2 15 (by decide), w3 15 (by decide), k1]
        refine zz_icmp_ge (tgt := 280) dX10_came_157 (by decide) (fun h5 => ?_) (fun h5 => ?_)
        · refine zz_iload rfl dX10_came_280 ?_
          refine zz_ireturn dX10_came_282 rfl (by first | rfl | decide | assumption) ?_
          exact hq Ix (fun c c1 c2 => by rw [f1 c c1, w1 c c2]; exact e2 c c1) (by rw [f2 7 (by decide), w1 259 (by decide)]; exact e70) (fun i i1 i2 => by rw [f2 i i2]; exact w3 i i1) f3
        · exact absurd (nI_le (Nat.le_refl i) (by omega)) h5
      | succ q ih =>
        intro i Ix z6 z7 z8 hi f1 f2 f3
        have hwi := k5 i (by omega)
        have hcl := cm_le (mkB (nn j) (sg j) L k) ws (I 259 29) i
        have e23 : Ix 270 i = nI (ws i) := by rw [f1 270 (by decide), w1 270 (by decide), e2 270 (by decide)]; exact hwi.2
        have e16 : Ix 259 16 = nI k := by rw [f2 16 (by decide), w3 16 (by decide)]; exact k3
        have e258 : Ix 260 j = nI (nn j) := by rw [f1 260 (by decide), w1 260 (by decide), e2 260 (by decide)]; exact hc.2.1
        have ne0' : ¬ Ix 260 (nI j).toNatClampNeg = 0 := by rw [cl1, e258]; exact nI_ne0 (by omega) (by omega)
        refine zz_iload rfl dX10_came_151 ?_
        refine zz_aload_n rfl dX10_came_153 ?_
        refine zz_geti dX10_came_154 fX10_49 rfl (os_259 hO) ?_
        try dsimp only [zz_s1, zz_s2, zz_kill, zz_ent, zz_fl, List.set_cons_zero, List.set_cons_succ, List.getElem?_cons_zero, List.getElem?_cons_succ, Option.toList_some, Option.toList_none, List.cons_append, List.nil_append, List.append_nil, List.length_cons, List.length_nil, List.replicate_succ, List.replicate_zero, Nat.reduceAdd, Nat.reduceSub]
        rw [f2 15 (by decide), w3 15 (by decide), k1]
        refine zz_icmp_ge (tgt := 280) dX10_came_157 (by decide) (fun h5 => ?_) (fun h5 => ?_)
        · exact absurd h5 (nI_ge (by omega) (by omega))
        · skip
          refine zz_iconst (v := 1) (by decide) dX10_came_160 ?_
          refine zz_istore dX10_came_161 (by decide) ?_
          refine zz_aload_n rfl dX10_came_163 ?_
          refine zz_getr dX10_came_164 fX10_46 (fun _ _ _ _ => rfl) (os_259 hO) (or_259_14 hO) ?_
          refine zz_iload rfl dX10_came_167 ?_
          refine zz_iald dX10_came_169 (os_270 hO) (vp_in_nI (show i < 64 by omega) (by decide)) ?_
          refine zz_istore dX10_came_170 (by decide) ?_
          refine zz_aload_n rfl dX10_came_172 ?_
          refine zz_geti dX10_came_173 fX10_52 rfl (os_259 hO) ?_
          refine zz_iconst (v := 1) (by decide) dX10_came_176 ?_
          refine zz_isub dX10_came_177 ?_
          refine zz_istore dX10_came_178 (by decide) ?_
          try dsimp only [zz_s1, zz_s2, zz_kill, zz_ent, zz_fl, List.set_cons_zero, List.set_cons_succ, List.getElem?_cons_zero, List.getElem?_cons_succ, Option.toList_some, Option.toList_none, List.cons_append, List.nil_append, List.append_nil, List.length_cons, List.length_nil, List.replicate_succ, List.replicate_zero, Nat.reduceAdd, Nat.reduceSub]
          rw [nI_clamp (show i < 2 ^ 31 by omega), e23, e16, show nI k - 1 = nI k + (-1) from Int32.sub_eq_add_neg _ _]
          have inner : ∀ (q x : Nat) (is : Int32), q ≤ k → x < 2 ^ 31 → (is = 0 ∨ is = 1) → (∀ (r : Int32) (z7 z8 : Option Value), bo r (is = 1 ∧ mkB (nn j) (sg j) L q x = true) → zz_G mX10_came (d + 2) 0 247 [some (.ref 259), some (.int (nI j)), some (.int (nI n)), some (.int (nI k)), some (.int (nI (cm (mkB (nn j) (sg j) L k) ws (I 259 29) i).1)), some (.int (nI i)), some (.int r), z7, z8] [] M Ix J Q) → zz_G mX10_came (d + 2) 0 180 [some (.ref 259), some (.int (nI j)), some (.int (nI n)), some (.int (nI k)), some (.int (nI (cm (mkB (nn j) (sg j) L k) ws (I 259 29) i).1)), some (.int (nI i)), some (.int is), some (.int (nI x)), some (.int (nI q + (-1)))] [] M Ix J Q := by
            intro q
            induction q with
            | zero =>
              intro x is hq2 hx his hk2
              refine zz_iload rfl dX10_came_180 ?_
              try dsimp only [zz_s1, zz_s2, zz_kill, zz_ent, zz_fl, List.set_cons_zero, List.set_cons_succ, List.getElem?_cons_zero, List.getElem?_cons_succ, Option.toList_some, Option.toList_none, List.cons_append, List.nil_append, List.append_nil, List.length_cons, List.length_nil, List.replicate_succ, List.replicate_zero, Nat.reduceAdd, Nat.reduceSub]
              refine zz_if_lt (tgt := 247) dX10_came_182 (by decide) (fun h8 => ?_) (fun h8 => ?_)
              · exact hk2 is _ _ (his.elim (fun z => by rw [z]; exact bo.zero fun y => absurd y.1 (by decide)) (fun z => by rw [z]; exact bo.one ⟨rfl, rfl⟩))
              · exact absurd nI_d0 h8
            | succ q ih3 =>
              intro x is hq2 hx his hk2
              have hxm : x % nn j < 24 := Nat.lt_of_lt_of_le (Nat.mod_lt _ (by omega)) hnj.2
              have hd : x / nn j < 2 ^ 31 := Nat.lt_of_le_of_lt (Nat.div_le_self _ _) hx
              have hxi : (24 : Int32) * nI j + nI (x % nn j) = nI (24 * j + x % nn j) := by rw [show (24 : Int32) = nI 24 from rfl, pk_mul, nI_add]
              have hrm : jv_rem (nI x) (Ix 260 (nI j).toNatClampNeg) = nI (x % nn j) := by rw [cl1, e258]; exact pk_rem hx (by omega) (by omega)
              have haxq := hax q (by omega)
              rw [nI_dn]
              have next : ∀ is2 : Int32, (is2 = 0 ∨ is2 = 1) → (is2 = 1 ↔ is = 1 ∧ ¬ (sg j (x % nn j) &&& sbit (L.getD q 0) = 0)) → zz_G mX10_came (d + 2) 0 228 [some (.ref 259), some (.int (nI j)), some (.int (nI n)), some (.int (nI k)), some (.int (nI (cm (mkB (nn j) (sg j) L k) ws (I 259 29) i).1)), some (.int (nI i)), some (.int is), some (.int (nI x)), some (.int (nI q))] [.int is2] M Ix J Q := by
                intro is2 b1 b2
                refine zz_istore dX10_came_228 (by decide) ?_
                refine zz_iload rfl dX10_came_230 ?_
                refine zz_aload_n rfl dX10_came_232 ?_
                refine zz_getr dX10_came_233 fX10_9 (fun _ _ _ _ => rfl) (os_259 hO) (or_259_0 hO) ?_
                refine zz_iload_n rfl dX10_came_236 ?_
                refine zz_iald dX10_came_237 (os_260 hO) v1 ?_
                refine zz_idiv ne0' dX10_came_238 ?_
                refine zz_istore dX10_came_239 (by decide) ?_
                refine zz_iinc dX10_came_241 rfl (congrArg (HAdd.hAdd _) (show Int32.ofInt (-1) = (-1) by decide)) (by decide) ?_
                refine zz_goto (tgt := 180) dX10_came_244 (by decide) ?_
                try dsimp only [zz_s1, zz_s2, zz_kill, zz_ent, zz_fl, List.set_cons_zero, List.set_cons_succ, List.getElem?_cons_zero, List.getElem?_cons_succ, Option.toList_some, Option.toList_none, List.cons_append, List.nil_append, List.append_nil, List.length_cons, List.length_nil, List.replicate_succ, List.replicate_zero, Nat.reduceAdd, Nat.reduceSub]
                rw [cl1, e258, pk_div hx (by omega) (by omega)]
                refine ih3 (x / nn j) is2 (by omega) hd b1 (fun r z7 z8 hr => hk2 r z7 z8 (hr.iff ⟨fun z => ?_, fun z => ?_⟩))
                · exact ⟨(b2.mp z.1).1, mkB_s.mpr ⟨(b2.mp z.1).2, z.2⟩⟩
                · exact ⟨b2.mpr ⟨z.1, (mkB_s.mp z.2).1⟩, (mkB_s.mp z.2).2⟩
              refine zz_iload rfl dX10_came_180 ?_
              try dsimp only [zz_s1, zz_s2, zz_kill, zz_ent, zz_fl, List.set_cons_zero, List.set_cons_succ, List.getElem?_cons_zero, List.getElem?_cons_succ, Option.toList_some, Option.toList_none, List.cons_append, List.nil_append, List.append_nil, List.length_cons, List.length_nil, List.replicate_succ, List.replicate_zero, Nat.reduceAdd, Nat.reduceSub]
              refine zz_if_lt (tgt := 247) dX10_came_182 (by decide) (fun h8 => ?_) (fun h8 => ?_)
              · exact absurd h8 (nI_nn (by omega))
              · skip
                refine zz_iload rfl dX10_came_185 ?_
                try dsimp only [zz_s1, zz_s2, zz_kill, zz_ent, zz_fl, List.set_cons_zero, List.set_cons_succ, List.getElem?_cons_zero, List.getElem?_cons_succ, Option.toList_some, Option.toList_none, List.cons_append, List.nil_append, List.append_nil, List.length_cons, List.length_nil, List.replicate_succ, List.replicate_zero, Nat.reduceAdd, Nat.reduceSub]
                refine zz_if_eq (tgt := 227) dX10_came_187 (by decide) (fun h9 => ?_) (fun h9 => ?_)
                · refine zz_iconst (v := 0) (by decide) dX10_came_227 ?_
                  try dsimp only [zz_s1, zz_s2, zz_kill, zz_ent, zz_fl, List.set_cons_zero, List.set_cons_succ, List.getElem?_cons_zero, List.getElem?_cons_succ, Option.toList_some, Option.toList_none, List.cons_append, List.nil_append, List.append_nil, List.length_cons, List.length_nil, List.replicate_succ, List.replicate_zero, Nat.reduceAdd, Nat.reduceSub]
                  exact next 0 (Or.inl rfl) ⟨fun z => absurd z (by decide), fun z => by rw [h9] at z; exact absurd z.1 (by decide)⟩
                · skip
                  have is1 : is = 1 := his.elim (fun z => absurd z h9) id
                  refine zz_aload_n rfl dX10_came_190 ?_
                  refine zz_getr dX10_came_191 fX10_19 (fun _ _ _ _ => rfl) (os_259 hO) (or_259_3 hO) ?_
                  refine zz_bipush (v := 24) (by decide) dX10_came_194 ?_
                  refine zz_iload_n rfl dX10_came_196 ?_
                  refine zz_imul dX10_came_197 ?_
                  refine zz_iload rfl dX10_came_198 ?_
                  refine zz_aload_n rfl dX10_came_200 ?_
                  refine zz_getr dX10_came_201 fX10_9 (fun _ _ _ _ => rfl) (os_259 hO) (or_259_0 hO) ?_
                  refine zz_iload_n rfl dX10_came_204 ?_
                  refine zz_iald dX10_came_205 (os_260 hO) v1 ?_
                  refine zz_irem ne0' dX10_came_206 ?_
                  refine zz_iadd dX10_came_207 ?_
                  refine zz_iald dX10_came_208 (os_263 hO) (by rw [hrm, hxi]; exact vp_in_nI (by omega) (by decide)) ?_
                  refine zz_aload_n rfl dX10_came_209 ?_
                  refine zz_getr dX10_came_210 fX10_36 (fun _ _ _ _ => rfl) (os_259 hO) (or_259_10 hO) ?_
                  refine zz_iload rfl dX10_came_213 ?_
                  refine zz_iald dX10_came_215 (os_267 hO) (vp_in_nI (by omega) (by decide)) ?_
                  refine zz_ishr dX10_came_216 ?_
                  refine zz_iconst (v := 1) (by decide) dX10_came_217 ?_
                  refine zz_iand dX10_came_218 ?_
                  refine zz_iconst (v := 1) (by decide) dX10_came_219 ?_
                  try dsimp only [zz_s1, zz_s2, zz_kill, zz_ent, zz_fl, List.set_cons_zero, List.set_cons_succ, List.getElem?_cons_zero, List.getElem?_cons_succ, Option.toList_some, Option.toList_none, List.cons_append, List.nil_append, List.append_nil, List.length_cons, List.length_nil, List.replicate_succ, List.replicate_zero, Nat.reduceAdd, Nat.reduceSub]
                  have esg : Ix 263 (24 * j + x % nn j) = sg j (x % nn j) := by rw [f1 263 (by decide), w1 263 (by decide), e2 263 (by decide)]; exact hc.2.2.2.2.1 _ hxm
                  have erd : Ix 267 q = nI (L.getD q 0 - 97) := by rw [f1 267 (by decide)]; exact w2 q (by omega)
                  rw [hrm, hxi, nI_clamp (show 24 * j + x % nn j < 2 ^ 31 by omega), nI_clamp (show q < 2 ^ 31 by omega), esg, erd]
                  have hiff := (sh1_iff (sg j (x % nn j)) (b := L.getD q 0 - 97) (by omega)).trans (sbit_bt (sg j (x % nn j)) haxq.1 haxq.2).symm
                  refine zz_icmp_ne (tgt := 227) dX10_came_220 (by decide) (fun h10 => ?_) (fun h10 => ?_)
                  · refine zz_iconst (v := 0) (by decide) dX10_came_227 ?_
                    try dsimp only [zz_s1, zz_s2, zz_kill, zz_ent, zz_fl, List.set_cons_zero, List.set_cons_succ, List.getElem?_cons_zero, List.getElem?_cons_succ, Option.toList_some, Option.toList_none, List.cons_append, List.nil_append, List.append_nil, List.length_cons, List.length_nil, List.replicate_succ, List.replicate_zero, Nat.reduceAdd, Nat.reduceSub]
                    exact next 0 (Or.inl rfl) ⟨fun z => absurd z (by decide), fun z => absurd (hiff.mpr z.2) h10⟩
                  · skip
                    refine zz_iconst (v := 1) (by decide) dX10_came_223 ?_
                    refine zz_goto (tgt := 228) dX10_came_224 (by decide) ?_
                    try dsimp only [zz_s1, zz_s2, zz_kill, zz_ent, zz_fl, List.set_cons_zero, List.set_cons_succ, List.getElem?_cons_zero, List.getElem?_cons_succ, Option.toList_some, Option.toList_none, List.cons_append, List.nil_append, List.append_nil, List.length_cons, List.length_nil, List.replicate_succ, List.replicate_zero, Nat.reduceAdd, Nat.reduceSub]
                    exact next 1 (Or.inr rfl) ⟨fun _ => ⟨is1, hiff.mp h10⟩, fun _ => rfl⟩
          refine inner k (ws i) 1 (Nat.le_refl _) hwi.1 (Or.inr rfl) (fun r z7 z8 hr => ?_)
          have hr2 : bo r (mkB (nn j) (sg j) L k (ws i) = true) := hr.iff ⟨fun z => z.2, fun z => ⟨rfl, z⟩⟩
          refine zz_iload rfl dX10_came_247 ?_
          try dsimp only [zz_s1, zz_s2, zz_kill, zz_ent, zz_fl, List.set_cons_zero, List.set_cons_succ, List.getElem?_cons_zero, List.getElem?_cons_succ, Option.toList_some, Option.toList_none, List.cons_append, List.nil_append, List.append_nil, List.length_cons, List.length_nil, List.replicate_succ, List.replicate_zero, Nat.reduceAdd, Nat.reduceSub]
          refine zz_if_ne (tgt := 255) dX10_came_249 (by decide) (fun h6 => ?_) (fun h6 => ?_)
          rotate_left
          · have hn3 := cm_n (s0 := I 259 29) (hr2.f h6)
            refine zz_goto (tgt := 274) dX10_came_252 (by decide) ?_
            refine zz_iinc dX10_came_274 rfl (congrArg (HAdd.hAdd _) (show Int32.ofInt 1 = 1 by decide)) (by decide) ?_
            refine zz_goto (tgt := 151) dX10_came_277 (by decide) ?_
            try dsimp only [zz_s1, zz_s2, zz_kill, zz_ent, zz_fl, List.set_cons_zero, List.set_cons_succ, List.getElem?_cons_zero, List.getElem?_cons_succ, Option.toList_some, Option.toList_none, List.cons_append, List.nil_append, List.append_nil, List.length_cons, List.length_nil, List.replicate_succ, List.replicate_zero, Nat.reduceAdd, Nat.reduceSub]
            rw [nI_1]
            rw [← hn3]
            exact ih (i + 1) Ix _ _ _ (by omega) f1 f2 (by rw [hn3]; exact f3)
          · skip
            have hy := cm_y (s0 := I 259 29) (hr2.t h6)
            refine zz_iload rfl dX10_came_255 ?_
            try dsimp only [zz_s1, zz_s2, zz_kill, zz_ent, zz_fl, List.set_cons_zero, List.set_cons_succ, List.getElem?_cons_zero, List.getElem?_cons_succ, Option.toList_some, Option.toList_none, List.cons_append, List.nil_append, List.append_nil, List.length_cons, List.length_nil, List.replicate_succ, List.replicate_zero, Nat.reduceAdd, Nat.reduceSub]
            refine zz_if_ne (tgt := 271) dX10_came_257 (by decide) (fun h7 => ?_) (fun h7 => ?_)
            · have ne : ¬ (cm (mkB (nn j) (sg j) L k) ws (I 259 29) i).1 = 0 := fun z => h7 (by rw [z]; rfl)
              rw [if_neg ne] at hy
              refine zz_iinc dX10_came_271 rfl (congrArg (HAdd.hAdd _) (show Int32.ofInt 1 = 1 by decide)) (by decide) ?_
              refine zz_iinc dX10_came_274 rfl (congrArg (HAdd.hAdd _) (show Int32.ofInt 1 = 1 by decide)) (by decide) ?_
              refine zz_goto (tgt := 151) dX10_came_277 (by decide) ?_
              try dsimp only [zz_s1, zz_s2, zz_kill, zz_ent, zz_fl, List.set_cons_zero, List.set_cons_succ, List.getElem?_cons_zero, List.getElem?_cons_succ, Option.toList_some, Option.toList_none, List.cons_append, List.nil_append, List.append_nil, List.length_cons, List.length_nil, List.replicate_succ, List.replicate_zero, Nat.reduceAdd, Nat.reduceSub]
              rw [nI_1, nI_1]
              have hx := ih (i + 1) Ix (some (.int r)) z7 z8 (by omega) f1 f2 (by rw [hy]; exact f3)
              rw [hy] at hx
              exact hx
            · skip
              have ez : (cm (mkB (nn j) (sg j) L k) ws (I 259 29) i).1 = 0 := (nI_eq (b := 0) (by omega) (by decide)).mp h7
              rw [if_pos ez] at hy
              refine zz_aload_n rfl dX10_came_260 ?_
              refine zz_aload_n rfl dX10_came_261 ?_
              refine zz_getr dX10_came_262 fX10_46 (fun _ _ _ _ => rfl) (os_259 hO) (or_259_14 hO) ?_
              refine zz_iload rfl dX10_came_265 ?_
              refine zz_iald dX10_came_267 (os_270 hO) (vp_in_nI (show i < 64 by omega) (by decide)) ?_
              refine zz_puti dX10_came_268 fX10_73 rfl (fun q h => by cases h; rfl) (os_259 hO) ?_
              refine zz_iinc dX10_came_271 rfl (congrArg (HAdd.hAdd _) (show Int32.ofInt 1 = 1 by decide)) (by decide) ?_
              refine zz_iinc dX10_came_274 rfl (congrArg (HAdd.hAdd _) (show Int32.ofInt 1 = 1 by decide)) (by decide) ?_
              refine zz_goto (tgt := 151) dX10_came_277 (by decide) ?_
              try dsimp only [zz_s1, zz_s2, zz_kill, zz_ent, zz_fl, List.set_cons_zero, List.set_cons_succ, List.getElem?_cons_zero, List.getElem?_cons_succ, Option.toList_some, Option.toList_none, List.cons_append, List.nil_append, List.append_nil, List.length_cons, List.length_nil, List.replicate_succ, List.replicate_zero, Nat.reduceAdd, Nat.reduceSub]
              rw [nI_1, nI_1, nI_clamp (show i < 2 ^ 31 by omega), e23]
              have hx := ih (i + 1) (zz_ui Ix 259 29 (nI (ws i))) (some (.int r)) z7 z8 (by omega) (fun c c1 => by rw [zz_ui_ne _ _ _ c1]; exact f1 c c1) (fun i i1 => by rw [zz_ui_at, pk_un i1]; exact f2 i i1) (by rw [hy, zz_ui_at, pk_us])
              rw [hy] at hx
              exact hx
    exact loop sz 0 Iz _ _ _ (by omega) (fun _ _ => rfl) (fun _ _ => rfl) (w3 29 (by decide))
  have read : ∀ (r i : Nat) (Ix : zz_I) (rd : List Nat) (z5 z6 z7 z8 : Option Value), i + r = n → rd.length ≤ k → (∀ c, c ≠ 267 → Ix c = I2 c) → (∀ i, i < rd.length → Ix 267 i = nI (rd.getD i 0 - 97)) → P0 = rsg by_ r i rd → zz_G mX10_came (d + 2) 0 59 [some (.ref 259), some (.int (nI j)), some (.int (nI n)), some (.int (nI rd.length)), some (.int (nI i)), z5, z6, z7, z8] [] M Ix J Q := by
    intro r
    induction r with
    | zero =>
      intro i Ix rd z5 z6 z7 z8 hi hrd f1 f2 hp
      have ei : i = n := by omega
      subst ei
      refine zz_iload rfl dX10_came_59 ?_
      refine zz_iload_n rfl dX10_came_61 ?_
      try dsimp only [zz_s1, zz_s2, zz_kill, zz_ent, zz_fl, List.set_cons_zero, List.set_cons_succ, List.getElem?_cons_zero, List.getElem?_cons_succ, Option.toList_some, Option.toList_none, List.cons_append, List.nil_append, List.append_nil, List.length_cons, List.length_nil, List.replicate_succ, List.replicate_zero, Nat.reduceAdd, Nat.reduceSub]
      refine zz_icmp_ge (tgt := 135) dX10_came_62 (by decide) (fun h4 => ?_) (fun h4 => ?_)
      · refine zz_iload_n rfl dX10_came_135 ?_
        refine zz_aload_n rfl dX10_came_136 ?_
        refine zz_geti dX10_came_137 fX10_52 rfl (os_259 hO) ?_
        try dsimp only [zz_s1, zz_s2, zz_kill, zz_ent, zz_fl, List.set_cons_zero, List.set_cons_succ, List.getElem?_cons_zero, List.getElem?_cons_succ, Option.toList_some, Option.toList_none, List.cons_append, List.nil_append, List.append_nil, List.length_cons, List.length_nil, List.replicate_succ, List.replicate_zero, Nat.reduceAdd, Nat.reduceSub]
        rw [f1 259 (by decide), e7 16 (by decide), k3]
        refine zz_icmp_eq (tgt := 145) dX10_came_140 (by decide) (fun h5 => ?_) (fun h5 => ?_)
        · have el : rd.length = k := (nI_eq (by omega) (by omega)).mp h5
          rw [el]
          exact search rd Ix _ _ _ _ _ hp el f1 f2
        · skip
          refine zz_iconst (v := (-1)) (by decide) dX10_came_143 ?_
          refine zz_ireturn dX10_came_144 rfl (by first | rfl | decide | assumption) ?_
          refine none_ Ix f1 (fun L hL z => h5 ?_)
          rw [hL] at hp
          cases hp
          rw [z]
      · exact absurd (nI_le (Nat.le_refl i) (by omega)) h4
    | succ r ih =>
      intro i Ix rd z5 z6 z7 z8 hi hrd f1 f2 hp
      have hbk : by_ i < 256 ∧ Ix 266 i = jv_b (nI (by_ i)) := by rw [f1 266 (by decide), e2 266 (by decide)]; exact hby i (by omega)
      unfold rsg at hp
      refine zz_iload rfl dX10_came_59 ?_
      refine zz_iload_n rfl dX10_came_61 ?_
      try dsimp only [zz_s1, zz_s2, zz_kill, zz_ent, zz_fl, List.set_cons_zero, List.set_cons_succ, List.getElem?_cons_zero, List.getElem?_cons_succ, Option.toList_some, Option.toList_none, List.cons_append, List.nil_append, List.append_nil, List.length_cons, List.length_nil, List.replicate_succ, List.replicate_zero, Nat.reduceAdd, Nat.reduceSub]
      refine zz_icmp_ge (tgt := 135) dX10_came_62 (by decide) (fun h4 => ?_) (fun h4 => ?_)
      · exact absurd h4 (nI_ge (by omega) (by omega))
      refine zz_aload_n rfl dX10_came_65 ?_
      refine zz_getr dX10_came_66 fX10_28 (fun _ _ _ _ => rfl) (os_259 hO) (or_259_6 hO) ?_
      refine zz_iload rfl dX10_came_69 ?_
      refine zz_bald dX10_came_71 (os_266 hO) (vp_in_nI (show i < 600 by omega) (by decide)) ?_
      refine zz_istore dX10_came_72 (by decide) ?_
      refine zz_iload rfl dX10_came_74 ?_
      refine zz_bipush (v := 32) (by decide) dX10_came_76 ?_
      try dsimp only [zz_s1, zz_s2, zz_kill, zz_ent, zz_fl, List.set_cons_zero, List.set_cons_succ, List.getElem?_cons_zero, List.getElem?_cons_succ, Option.toList_some, Option.toList_none, List.cons_append, List.nil_append, List.append_nil, List.length_cons, List.length_nil, List.replicate_succ, List.replicate_zero, Nat.reduceAdd, Nat.reduceSub]
      rw [nI_clamp (show i < 2 ^ 31 by omega), hbk.2]
      refine zz_icmp_eq (tgt := 129) dX10_came_78 (by decide) (fun h5 => ?_) (fun h5 => ?_)
      · rw [if_pos (Or.inl ((mb_32 _ hbk.1).mp h5))] at hp
        refine zz_iinc dX10_came_129 rfl (congrArg (HAdd.hAdd _) (show Int32.ofInt 1 = 1 by decide)) (by decide) ?_
        refine zz_goto (tgt := 59) dX10_came_132 (by decide) ?_
        try dsimp only [zz_s1, zz_s2, zz_kill, zz_ent, zz_fl, List.set_cons_zero, List.set_cons_succ, List.getElem?_cons_zero, List.getElem?_cons_succ, Option.toList_some, Option.toList_none, List.cons_append, List.nil_append, List.append_nil, List.length_cons, List.length_nil, List.replicate_succ, List.replicate_zero, Nat.reduceAdd, Nat.reduceSub]
        rw [nI_1]
        exact ih (i + 1) Ix rd _ _ _ _ (by omega) hrd f1 f2 hp
      have n32 : ¬ by_ i = 32 := fun q => h5 ((mb_32 _ hbk.1).mpr q)
      refine zz_iload rfl dX10_came_81 ?_
      refine zz_bipush (v := 10) (by decide) dX10_came_83 ?_
      try dsimp only [zz_s1, zz_s2, zz_kill, zz_ent, zz_fl, List.set_cons_zero, List.set_cons_succ, List.getElem?_cons_zero, List.getElem?_cons_succ, Option.toList_some, Option.toList_none, List.cons_append, List.nil_append, List.append_nil, List.length_cons, List.length_nil, List.replicate_succ, List.replicate_zero, Nat.reduceAdd, Nat.reduceSub]
      refine zz_icmp_ne (tgt := 91) dX10_came_85 (by decide) (fun h6 => ?_) (fun h6 => ?_)
      rotate_left
      · rw [if_pos (Or.inr ((mb_10 _ hbk.1).mp h6))] at hp
        refine zz_goto (tgt := 129) dX10_came_88 (by decide) ?_
        refine zz_iinc dX10_came_129 rfl (congrArg (HAdd.hAdd _) (show Int32.ofInt 1 = 1 by decide)) (by decide) ?_
        refine zz_goto (tgt := 59) dX10_came_132 (by decide) ?_
        try dsimp only [zz_s1, zz_s2, zz_kill, zz_ent, zz_fl, List.set_cons_zero, List.set_cons_succ, List.getElem?_cons_zero, List.getElem?_cons_succ, Option.toList_some, Option.toList_none, List.cons_append, List.nil_append, List.append_nil, List.length_cons, List.length_nil, List.replicate_succ, List.replicate_zero, Nat.reduceAdd, Nat.reduceSub]
        rw [nI_1]
        exact ih (i + 1) Ix rd _ _ _ _ (by omega) hrd f1 f2 hp
      have n10 : ¬ by_ i = 10 := fun q => h6 ((mb_10 _ hbk.1).mpr q)
      rw [if_neg (fun q => q.elim n32 n10)] at hp
      have bad : (∀ L, P0 = some L → ¬ L.length = k) → zz_G mX10_came (d + 2) 0 113 [some (.ref 259), some (.int (nI j)), some (.int (nI n)), some (.int (nI rd.length)), some (.int (nI i)), some (.int (jv_b (nI (by_ i)))), z6, z7, z8] [] M Ix J Q := by
        intro hb
        refine zz_iconst (v := (-1)) (by decide) dX10_came_113 ?_
        refine zz_ireturn dX10_came_114 rfl (by first | rfl | decide | assumption) ?_
        exact none_ Ix f1 hb
      have strange : ¬ (97 ≤ by_ i ∧ by_ i ≤ 120) → ∀ L, P0 = some L → ¬ L.length = k := by
        intro hb L hL
        rw [if_neg hb, hL] at hp
        cases hp
      refine zz_iload rfl dX10_came_91 ?_
      refine zz_bipush (v := 97) (by decide) dX10_came_93 ?_
      try dsimp only [zz_s1, zz_s2, zz_kill, zz_ent, zz_fl, List.set_cons_zero, List.set_cons_succ, List.getElem?_cons_zero, List.getElem?_cons_succ, Option.toList_some, Option.toList_none, List.cons_append, List.nil_append, List.append_nil, List.length_cons, List.length_nil, List.replicate_succ, List.replicate_zero, Nat.reduceAdd, Nat.reduceSub]
      refine zz_icmp_lt (tgt := 113) dX10_came_95 (by decide) (fun h7 => ?_) (fun h7 => ?_)
      · exact bad (strange fun q => ((mb_ax _ hbk.1).mpr q).1 h7)
      refine zz_iload rfl dX10_came_98 ?_
      refine zz_bipush (v := 120) (by decide) dX10_came_100 ?_
      try dsimp only [zz_s1, zz_s2, zz_kill, zz_ent, zz_fl, List.set_cons_zero, List.set_cons_succ, List.getElem?_cons_zero, List.getElem?_cons_succ, Option.toList_some, Option.toList_none, List.cons_append, List.nil_append, List.append_nil, List.length_cons, List.length_nil, List.replicate_succ, List.replicate_zero, Nat.reduceAdd, Nat.reduceSub]
      refine zz_icmp_gt (tgt := 113) dX10_came_102 (by decide) (fun h8 => ?_) (fun h8 => ?_)
      · exact bad (strange fun q => absurd h8 (Int32.not_lt.mpr ((mb_ax _ hbk.1).mpr q).2))
      have hax := (mb_ax _ hbk.1).mp ⟨h7, Int32.not_lt.mp h8⟩
      rw [if_pos hax] at hp
      refine zz_iload_n rfl dX10_came_105 ?_
      refine zz_aload_n rfl dX10_came_106 ?_
      refine zz_geti dX10_came_107 fX10_52 rfl (os_259 hO) ?_
      try dsimp only [zz_s1, zz_s2, zz_kill, zz_ent, zz_fl, List.set_cons_zero, List.set_cons_succ, List.getElem?_cons_zero, List.getElem?_cons_succ, Option.toList_some, Option.toList_none, List.cons_append, List.nil_append, List.append_nil, List.length_cons, List.length_nil, List.replicate_succ, List.replicate_zero, Nat.reduceAdd, Nat.reduceSub]
      rw [f1 259 (by decide), e7 16 (by decide), k3]
      refine zz_icmp_ne (tgt := 115) dX10_came_110 (by decide) (fun h9 => ?_) (fun h9 => ?_)
      · have el : rd.length < k := by
          have : ¬ rd.length = k := fun z => h9 (by rw [z])
          omega
        refine zz_aload_n rfl dX10_came_115 ?_
        refine zz_getr dX10_came_116 fX10_36 (fun _ _ _ _ => rfl) (os_259 hO) (or_259_10 hO) ?_
        refine zz_iload_n rfl dX10_came_119 ?_
        refine zz_iload rfl dX10_came_120 ?_
        refine zz_bipush (v := 97) (by decide) dX10_came_122 ?_
        refine zz_isub dX10_came_124 ?_
        refine zz_iast dX10_came_125 (os_267 hO) (vp_in_nI (show rd.length < 24 by omega) (by decide)) ?_
        refine zz_iinc dX10_came_126 rfl (congrArg (HAdd.hAdd _) (show Int32.ofInt 1 = 1 by decide)) (by decide) ?_
        refine zz_iinc dX10_came_129 rfl (congrArg (HAdd.hAdd _) (show Int32.ofInt 1 = 1 by decide)) (by decide) ?_
        refine zz_goto (tgt := 59) dX10_came_132 (by decide) ?_
        try dsimp only [zz_s1, zz_s2, zz_kill, zz_ent, zz_fl, List.set_cons_zero, List.set_cons_succ, List.getElem?_cons_zero, List.getElem?_cons_succ, Option.toList_some, Option.toList_none, List.cons_append, List.nil_append, List.append_nil, List.length_cons, List.length_nil, List.replicate_succ, List.replicate_zero, Nat.reduceAdd, Nat.reduceSub]
        rw [nI_1, nI_1, nI_clamp (show rd.length < 2 ^ 31 by omega), mb_sub _ (by omega) hax.1]
        have hlen : (rd ++ [by_ i]).length = rd.length + 1 := by simp
        rw [← hlen]
        refine ih (i + 1) _ (rd ++ [by_ i]) _ _ _ _ (by omega) (by omega) (fun c c1 => ?_) (fun i hi => ?_) hp
        · rw [zz_ui_ne _ _ _ c1]; exact f1 c c1
        · rw [zz_ui_at, gDn (by omega)]
          by_cases e : i = rd.length
          · subst e; simp [upd]
          · rw [pk_un e, if_neg e]; exact f2 i (by omega)
      · have el : rd.length = k := (nI_eq (by omega) (by omega)).mp h9
        refine bad (fun L hL z => ?_)
        have := rsg_len by_ r (i + 1) _ L (hp.symm.trans hL)
        simp at this
        omega
  exact read n 0 I2 [] _ _ _ _ (by omega) (by simp) (fun _ _ => rfl) (fun i hi => absurd hi (by simp)) hP.symm
end PCame2

