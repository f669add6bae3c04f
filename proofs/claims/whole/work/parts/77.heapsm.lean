/-! ===== the reference's heaps ===== -/
theorem sbit0 (x : Int32) {b : Nat} (hb : b < 32) : ((x >>> (nI b &&& 31)) &&& 1 = 0) ↔ bt x b = false := by
  rw [b_low0, b_sshr b hb x (by decide)]
  simp [hb]
theorem hs0 (x y : Int32) : (x &&& (y ^^^ (-1)) = 0) ↔ ∀ b, bt x b = true → bt y b = true := by
  constructor
  · intro z b hb
    have hb32 : b < 32 := Nat.lt_of_not_le fun q => by rw [b_big q] at hb; cases hb
    have h1 : bt (x &&& (y ^^^ (-1))) b = false := by rw [z, b_0]
    rw [b_and, b_xor, b_m1 b hb32, hb] at h1
    simpa using h1
  · intro z
    refine b_ext (fun i hi => ?_)
    rw [b_0, b_and, b_xor, b_m1 i hi]
    cases c : bt x i with
    | false => rfl
    | true => rw [z i c]; rfl
theorem ix24 (l a : Nat) : (24 : Int32) * nI l + nI a = nI (24 * l + a) := by rw [show (24 : Int32) = nI 24 from rfl, pk_mul, nI_add]
section PHeapsM
variable {M : zz_M} {I : zz_I} {J : zz_J} {Q : zz_Q} {l n k : Nat} {E : Nat → Nat → Bool}
theorem sp_lonely (d : Nat) (hO : OK M) {a u : Nat} {g : Nat → Nat} (hl : l < 8) (hn : n ≤ 24) (hk : k ≤ 24) (ha : a ≤ n) (hu : u ≤ k) (h258 : I 260 l = nI n) (hE : ∀ a, a < 24 → ∀ b, b < 32 → bt (I 262 (24 * l + a)) b = E a b) (hS : ∀ h, h < 24 → ∀ x, bt (I 272 h) x = true ↔ x < a ∧ g x = h) (hQ : ∀ m, m ≤ 24 → (hp_x n E k (ltW a) g → u + m ≤ k) → Q (some (.int (nI m))) M I J) : zz_D mX10_lonely d [.ref 259, .int (nI l), .int (nI a), .int (nI u), .int (nI (k - u))] M I J Q := by
  refine zz_D_of rfl (Nat.le_of_ble_eq_true rfl) ?_
  try dsimp only [zz_s1, zz_s2, zz_kill, zz_ent, zz_fl, List.set_cons_zero, List.set_cons_succ, List.getElem?_cons_zero, List.getElem?_cons_succ, Option.toList_some, Option.toList_none, List.cons_append, List.nil_append, List.append_nil, List.length_cons, List.length_nil, List.replicate_succ, List.replicate_zero, Nat.reduceAdd, Nat.reduceSub]
  refine zz_iconst (v := 0) (by decide) dX10_lonely_0 ?_
  refine zz_istore dX10_lonely_1 (by decide) ?_
  refine zz_iconst (v := 0) (by decide) dX10_lonely_3 ?_
  refine zz_istore dX10_lonely_4 (by decide) ?_
  refine zz_iload_n rfl dX10_lonely_6 ?_
  refine zz_istore dX10_lonely_7 (by decide) ?_
  try dsimp only [zz_s1, zz_s2, zz_kill, zz_ent, zz_fl, List.set_cons_zero, List.set_cons_succ, List.getElem?_cons_zero, List.getElem?_cons_succ, Option.toList_some, Option.toList_none, List.cons_append, List.nil_append, List.append_nil, List.length_cons, List.length_nil, List.replicate_succ, List.replicate_zero, Nat.reduceAdd, Nat.reduceSub]
  have outer : ∀ (q a' m : Nat) (x : Int32) (c : Nat → Nat) (z8 z9 : Option Value), a' + q = n → a + m ≤ a' → (∀ i, i < m → a ≤ c i ∧ c i < a' ∧ ∀ h, h < u → ∃ b, b < n ∧ ltW a b = true ∧ g b = h ∧ E (c i) b = false ∧ c i ≠ b) → (∀ i j, i < j → j < m → c i ≠ c j ∧ E (c i) (c j) = false) → (∀ y, y < 32 → bt x y = false → ∀ i, i < m → E (c i) y = false) → zz_G mX10_lonely d 0 9 [some (.ref 259), some (.int (nI l)), some (.int (nI a)), some (.int (nI u)), some (.int (nI (k - u))), some (.int (nI m)), some (.int x), some (.int (nI a')), z8, z9] [] M I J Q := by
    intro q
    induction q with
    | zero =>
      intro a' m x c z8 z9 hq hm g1 g2 g3
      have e : a' = n := by omega
      subst e
      refine zz_iload rfl dX10_lonely_9 ?_
      refine zz_aload_n rfl dX10_lonely_11 ?_
      refine zz_getr dX10_lonely_12 fX10_9 (fun _ _ _ _ => rfl) (os_259 hO) (or_259_0 hO) ?_
      refine zz_iload_n rfl dX10_lonely_15 ?_
      refine zz_iald dX10_lonely_16 (os_260 hO) (vp_in_nI hl (by decide)) ?_
      try dsimp only [zz_s1, zz_s2, zz_kill, zz_ent, zz_fl, List.set_cons_zero, List.set_cons_succ, List.getElem?_cons_zero, List.getElem?_cons_succ, Option.toList_some, Option.toList_none, List.cons_append, List.nil_append, List.append_nil, List.length_cons, List.length_nil, List.replicate_succ, List.replicate_zero, Nat.reduceAdd, Nat.reduceSub]
      rw [nI_clamp (show l < 2 ^ 31 by omega), h258]
      refine zz_icmp_ge (tgt := 130) dX10_lonely_17 (by decide) (fun q1 => ?_) (fun q1 => ?_)
      · refine zz_iload rfl dX10_lonely_130 ?_
        refine zz_ireturn dX10_lonely_132 rfl (by first | rfl | decide | assumption) ?_
        exact hQ m (by omega) (fun hx => hp_lonely hu (fun i hi => ⟨(g1 i hi).2.1, (g1 i hi).2.2⟩) g2 hx)
      · exact absurd (nI_le (Nat.le_refl a') (by omega)) q1
    | succ q ih =>
      intro a' m x c z8 z9 hq hm g1 g2 g3
      have eS := sbit0 x (show a' < 32 by omega)
      refine zz_iload rfl dX10_lonely_9 ?_
      refine zz_aload_n rfl dX10_lonely_11 ?_
      refine zz_getr dX10_lonely_12 fX10_9 (fun _ _ _ _ => rfl) (os_259 hO) (or_259_0 hO) ?_
      refine zz_iload_n rfl dX10_lonely_15 ?_
      refine zz_iald dX10_lonely_16 (os_260 hO) (vp_in_nI hl (by decide)) ?_
      try dsimp only [zz_s1, zz_s2, zz_kill, zz_ent, zz_fl, List.set_cons_zero, List.set_cons_succ, List.getElem?_cons_zero, List.getElem?_cons_succ, Option.toList_some, Option.toList_none, List.cons_append, List.nil_append, List.append_nil, List.length_cons, List.length_nil, List.replicate_succ, List.replicate_zero, Nat.reduceAdd, Nat.reduceSub]
      rw [nI_clamp (show l < 2 ^ 31 by omega), h258]
      refine zz_icmp_ge (tgt := 130) dX10_lonely_17 (by decide) (fun q1 => ?_) (fun q1 => ?_)
      · exact absurd q1 (nI_ge (by omega) (by omega))
      refine zz_iload rfl dX10_lonely_20 ?_
      refine zz_iload rfl dX10_lonely_22 ?_
      try dsimp only [zz_s1, zz_s2, zz_kill, zz_ent, zz_fl, List.set_cons_zero, List.set_cons_succ, List.getElem?_cons_zero, List.getElem?_cons_succ, Option.toList_some, Option.toList_none, List.cons_append, List.nil_append, List.append_nil, List.length_cons, List.length_nil, List.replicate_succ, List.replicate_zero, Nat.reduceAdd, Nat.reduceSub]
      refine zz_icmp_gt (tgt := 130) dX10_lonely_24 (by decide) (fun q2 => ?_) (fun q2 => ?_)
      · refine zz_iload rfl dX10_lonely_130 ?_
        refine zz_ireturn dX10_lonely_132 rfl (by first | rfl | decide | assumption) ?_
        exact hQ m (by omega) (fun hx => hp_lonely hu (fun i hi => ⟨by have := (g1 i hi).2.1; omega, (g1 i hi).2.2⟩) g2 hx)
      have next : ∀ (z8 z9 : Option Value), zz_G mX10_lonely d 0 124 [some (.ref 259), some (.int (nI l)), some (.int (nI a)), some (.int (nI u)), some (.int (nI (k - u))), some (.int (nI m)), some (.int x), some (.int (nI a')), z8, z9] [] M I J Q := by
        intro z8 z9
        refine zz_iinc dX10_lonely_124 rfl (congrArg (HAdd.hAdd _) (show Int32.ofInt 1 = 1 by decide)) (by decide) ?_
        refine zz_goto (tgt := 9) dX10_lonely_127 (by decide) ?_
        try dsimp only [zz_s1, zz_s2, zz_kill, zz_ent, zz_fl, List.set_cons_zero, List.set_cons_succ, List.getElem?_cons_zero, List.getElem?_cons_succ, Option.toList_some, Option.toList_none, List.cons_append, List.nil_append, List.append_nil, List.length_cons, List.length_nil, List.replicate_succ, List.replicate_zero, Nat.reduceAdd, Nat.reduceSub]
        rw [nI_1]
        exact ih (a' + 1) m x c _ _ (by omega) (by omega) (fun i hi => ⟨(g1 i hi).1, by have := (g1 i hi).2.1; omega, (g1 i hi).2.2⟩) g2 g3
      have skip : ∀ (h : Nat), zz_G mX10_lonely d 0 47 [some (.ref 259), some (.int (nI l)), some (.int (nI a)), some (.int (nI u)), some (.int (nI (k - u))), some (.int (nI m)), some (.int x), some (.int (nI a')), some (.int 0), some (.int (nI h))] [] M I J Q := by
        intro h
        refine zz_iload rfl dX10_lonely_47 ?_
        refine zz_iload_n rfl dX10_lonely_49 ?_
        try dsimp only [zz_s1, zz_s2, zz_kill, zz_ent, zz_fl, List.set_cons_zero, List.set_cons_succ, List.getElem?_cons_zero, List.getElem?_cons_succ, Option.toList_some, Option.toList_none, List.cons_append, List.nil_append, List.append_nil, List.length_cons, List.length_nil, List.replicate_succ, List.replicate_zero, Nat.reduceAdd, Nat.reduceSub]
        refine zz_icmp_ge (tgt := 96) dX10_lonely_50 (by decide) (fun q3 => ?_) (fun q3 => ?_)
        · refine zz_iload rfl dX10_lonely_96 ?_
          try dsimp only [zz_s1, zz_s2, zz_kill, zz_ent, zz_fl, List.set_cons_zero, List.set_cons_succ, List.getElem?_cons_zero, List.getElem?_cons_succ, Option.toList_some, Option.toList_none, List.cons_append, List.nil_append, List.append_nil, List.length_cons, List.length_nil, List.replicate_succ, List.replicate_zero, Nat.reduceAdd, Nat.reduceSub]
          refine zz_if_ne (tgt := 104) dX10_lonely_98 (by decide) (fun q4 => ?_) (fun q4 => ?_)
          · exact absurd rfl q4
          · skip
            refine zz_goto (tgt := 124) dX10_lonely_101 (by decide) ?_
            try dsimp only [zz_s1, zz_s2, zz_kill, zz_ent, zz_fl, List.set_cons_zero, List.set_cons_succ, List.getElem?_cons_zero, List.getElem?_cons_succ, Option.toList_some, Option.toList_none, List.cons_append, List.nil_append, List.append_nil, List.length_cons, List.length_nil, List.replicate_succ, List.replicate_zero, Nat.reduceAdd, Nat.reduceSub]
            exact next _ _
        · skip
          refine zz_iload rfl dX10_lonely_53 ?_
          try dsimp only [zz_s1, zz_s2, zz_kill, zz_ent, zz_fl, List.set_cons_zero, List.set_cons_succ, List.getElem?_cons_zero, List.getElem?_cons_succ, Option.toList_some, Option.toList_none, List.cons_append, List.nil_append, List.append_nil, List.length_cons, List.length_nil, List.replicate_succ, List.replicate_zero, Nat.reduceAdd, Nat.reduceSub]
          refine zz_if_eq (tgt := 96) dX10_lonely_55 (by decide) (fun q5 => ?_) (fun q5 => ?_)
          · refine zz_iload rfl dX10_lonely_96 ?_
            try dsimp only [zz_s1, zz_s2, zz_kill, zz_ent, zz_fl, List.set_cons_zero, List.set_cons_succ, List.getElem?_cons_zero, List.getElem?_cons_succ, Option.toList_some, Option.toList_none, List.cons_append, List.nil_append, List.append_nil, List.length_cons, List.length_nil, List.replicate_succ, List.replicate_zero, Nat.reduceAdd, Nat.reduceSub]
            refine zz_if_ne (tgt := 104) dX10_lonely_98 (by decide) (fun q4 => ?_) (fun q4 => ?_)
            · exact absurd rfl q4
            · skip
              refine zz_goto (tgt := 124) dX10_lonely_101 (by decide) ?_
              try dsimp only [zz_s1, zz_s2, zz_kill, zz_ent, zz_fl, List.set_cons_zero, List.set_cons_succ, List.getElem?_cons_zero, List.getElem?_cons_succ, Option.toList_some, Option.toList_none, List.cons_append, List.nil_append, List.append_nil, List.length_cons, List.length_nil, List.replicate_succ, List.replicate_zero, Nat.reduceAdd, Nat.reduceSub]
              exact next _ _
          · exact absurd rfl q5
      have inner : bt x a' = false → ∀ (q h : Nat), h + q = u → (∀ h', h' < h → ∃ b, b < n ∧ ltW a b = true ∧ g b = h' ∧ E a' b = false ∧ a' ≠ b) → zz_G mX10_lonely d 0 47 [some (.ref 259), some (.int (nI l)), some (.int (nI a)), some (.int (nI u)), some (.int (nI (k - u))), some (.int (nI m)), some (.int x), some (.int (nI a')), some (.int 1), some (.int (nI h))] [] M I J Q := by
        intro hbx q
        induction q with
        | zero =>
          intro h hh f
          have e : h = u := by omega
          subst e
          refine zz_iload rfl dX10_lonely_47 ?_
          refine zz_iload_n rfl dX10_lonely_49 ?_
          try dsimp only [zz_s1, zz_s2, zz_kill, zz_ent, zz_fl, List.set_cons_zero, List.set_cons_succ, List.getElem?_cons_zero, List.getElem?_cons_succ, Option.toList_some, Option.toList_none, List.cons_append, List.nil_append, List.append_nil, List.length_cons, List.length_nil, List.replicate_succ, List.replicate_zero, Nat.reduceAdd, Nat.reduceSub]
          refine zz_icmp_ge (tgt := 96) dX10_lonely_50 (by decide) (fun q3 => ?_) (fun q3 => ?_)
          · refine zz_iload rfl dX10_lonely_96 ?_
            try dsimp only [zz_s1, zz_s2, zz_kill, zz_ent, zz_fl, List.set_cons_zero, List.set_cons_succ, List.getElem?_cons_zero, List.getElem?_cons_succ, Option.toList_some, Option.toList_none, List.cons_append, List.nil_append, List.append_nil, List.length_cons, List.length_nil, List.replicate_succ, List.replicate_zero, Nat.reduceAdd, Nat.reduceSub]
            refine zz_if_ne (tgt := 104) dX10_lonely_98 (by decide) (fun q4 => ?_) (fun q4 => ?_)
            · refine zz_iinc dX10_lonely_104 rfl (congrArg (HAdd.hAdd _) (show Int32.ofInt 1 = 1 by decide)) (by decide) ?_
              refine zz_iload rfl dX10_lonely_107 ?_
              refine zz_aload_n rfl dX10_lonely_109 ?_
              refine zz_getr dX10_lonely_110 fX10_16 (fun _ _ _ _ => rfl) (os_259 hO) (or_259_2 hO) ?_
              refine zz_bipush (v := 24) (by decide) dX10_lonely_113 ?_
              refine zz_iload_n rfl dX10_lonely_115 ?_
              refine zz_imul dX10_lonely_116 ?_
              refine zz_iload rfl dX10_lonely_117 ?_
              refine zz_iadd dX10_lonely_119 ?_
              refine zz_iald dX10_lonely_120 (os_262 hO) (by rw [ix24]; exact vp_in_nI (show 24 * l + a' < 192 by omega) (by decide)) ?_
              refine zz_ior dX10_lonely_121 ?_
              refine zz_istore dX10_lonely_122 (by decide) ?_
              refine zz_iinc dX10_lonely_124 rfl (congrArg (HAdd.hAdd _) (show Int32.ofInt 1 = 1 by decide)) (by decide) ?_
              refine zz_goto (tgt := 9) dX10_lonely_127 (by decide) ?_
              try dsimp only [zz_s1, zz_s2, zz_kill, zz_ent, zz_fl, List.set_cons_zero, List.set_cons_succ, List.getElem?_cons_zero, List.getElem?_cons_succ, Option.toList_some, Option.toList_none, List.cons_append, List.nil_append, List.append_nil, List.length_cons, List.length_nil, List.replicate_succ, List.replicate_zero, Nat.reduceAdd, Nat.reduceSub]
              rw [nI_1, nI_1, ix24, nI_clamp (show 24 * l + a' < 2 ^ 31 by omega)]
              refine ih (a' + 1) (m + 1) _ (hp_u c m a') _ _ (by omega) (by omega) (fun i hi => ?_) (fun i j hij hj => ?_) (fun y hy hb i hi => ?_)
              · by_cases e : i = m
                · rw [e, hp_u_s]; exact ⟨by omega, by omega, f⟩
                · rw [hp_u_n _ e]
                  obtain ⟨y1, y2, y3⟩ := g1 i (by omega)
                  exact ⟨y1, by omega, y3⟩
              · rw [hp_u_n _ (show i ≠ m by omega)]
                by_cases e : j = m
                · rw [e, hp_u_s]
                  obtain ⟨y1, y2, y3⟩ := g1 i (by omega)
                  exact ⟨by omega, g3 a' (by omega) hbx i (by omega)⟩
                · rw [hp_u_n _ e]; exact g2 i j hij (by omega)
              · rw [b_or, Bool.or_eq_false_iff] at hb
                by_cases e : i = m
                · rw [e, hp_u_s, ← hE a' (by omega) y hy]; exact hb.2
                · rw [hp_u_n _ e]; exact g3 y hy hb.1 i (by omega)
            · exact absurd q4 (by decide)
          · exact absurd (nI_le (Nat.le_refl h) (by omega)) q3
        | succ q ih2 =>
          intro h hh f
          refine zz_iload rfl dX10_lonely_47 ?_
          refine zz_iload_n rfl dX10_lonely_49 ?_
          try dsimp only [zz_s1, zz_s2, zz_kill, zz_ent, zz_fl, List.set_cons_zero, List.set_cons_succ, List.getElem?_cons_zero, List.getElem?_cons_succ, Option.toList_some, Option.toList_none, List.cons_append, List.nil_append, List.append_nil, List.length_cons, List.length_nil, List.replicate_succ, List.replicate_zero, Nat.reduceAdd, Nat.reduceSub]
          refine zz_icmp_ge (tgt := 96) dX10_lonely_50 (by decide) (fun q3 => ?_) (fun q3 => ?_)
          · exact absurd q3 (nI_ge (by omega) (by omega))
          refine zz_iload rfl dX10_lonely_53 ?_
          try dsimp only [zz_s1, zz_s2, zz_kill, zz_ent, zz_fl, List.set_cons_zero, List.set_cons_succ, List.getElem?_cons_zero, List.getElem?_cons_succ, Option.toList_some, Option.toList_none, List.cons_append, List.nil_append, List.append_nil, List.length_cons, List.length_nil, List.replicate_succ, List.replicate_zero, Nat.reduceAdd, Nat.reduceSub]
          refine zz_if_eq (tgt := 96) dX10_lonely_55 (by decide) (fun q5 => ?_) (fun q5 => ?_)
          · exact absurd q5 (by decide)
          refine zz_aload_n rfl dX10_lonely_58 ?_
          refine zz_getr dX10_lonely_59 fX10_61 (fun _ _ _ _ => rfl) (os_259 hO) (or_259_20 hO) ?_
          refine zz_iload rfl dX10_lonely_62 ?_
          refine zz_iald dX10_lonely_64 (os_272 hO) (vp_in_nI (show h < 24 by omega) (by decide)) ?_
          refine zz_aload_n rfl dX10_lonely_65 ?_
          refine zz_getr dX10_lonely_66 fX10_16 (fun _ _ _ _ => rfl) (os_259 hO) (or_259_2 hO) ?_
          refine zz_bipush (v := 24) (by decide) dX10_lonely_69 ?_
          refine zz_iload_n rfl dX10_lonely_71 ?_
          refine zz_imul dX10_lonely_72 ?_
          refine zz_iload rfl dX10_lonely_73 ?_
          refine zz_iadd dX10_lonely_75 ?_
          refine zz_iald dX10_lonely_76 (os_262 hO) (by rw [ix24]; exact vp_in_nI (show 24 * l + a' < 192 by omega) (by decide)) ?_
          refine zz_iconst (v := (-1)) (by decide) dX10_lonely_77 ?_
          refine zz_ixor dX10_lonely_78 ?_
          refine zz_iand dX10_lonely_79 ?_
          try dsimp only [zz_s1, zz_s2, zz_kill, zz_ent, zz_fl, List.set_cons_zero, List.set_cons_succ, List.getElem?_cons_zero, List.getElem?_cons_succ, Option.toList_some, Option.toList_none, List.cons_append, List.nil_append, List.append_nil, List.length_cons, List.length_nil, List.replicate_succ, List.replicate_zero, Nat.reduceAdd, Nat.reduceSub]
          rw [ix24, nI_clamp (show 24 * l + a' < 2 ^ 31 by omega), nI_clamp (show h < 2 ^ 31 by omega)]
          refine zz_if_eq (tgt := 87) dX10_lonely_80 (by decide) (fun q6 => ?_) (fun q6 => ?_)
          · refine zz_iconst (v := 0) (by decide) dX10_lonely_87 ?_
            refine zz_istore dX10_lonely_88 (by decide) ?_
            refine zz_iinc dX10_lonely_90 rfl (congrArg (HAdd.hAdd _) (show Int32.ofInt 1 = 1 by decide)) (by decide) ?_
            refine zz_goto (tgt := 47) dX10_lonely_93 (by decide) ?_
            try dsimp only [zz_s1, zz_s2, zz_kill, zz_ent, zz_fl, List.set_cons_zero, List.set_cons_succ, List.getElem?_cons_zero, List.getElem?_cons_succ, Option.toList_some, Option.toList_none, List.cons_append, List.nil_append, List.append_nil, List.length_cons, List.length_nil, List.replicate_succ, List.replicate_zero, Nat.reduceAdd, Nat.reduceSub]
            rw [nI_1]
            exact skip (h + 1)
          · skip
            refine zz_iconst (v := 1) (by decide) dX10_lonely_83 ?_
            refine zz_goto (tgt := 88) dX10_lonely_84 (by decide) ?_
            refine zz_istore dX10_lonely_88 (by decide) ?_
            refine zz_iinc dX10_lonely_90 rfl (congrArg (HAdd.hAdd _) (show Int32.ofInt 1 = 1 by decide)) (by decide) ?_
            refine zz_goto (tgt := 47) dX10_lonely_93 (by decide) ?_
            try dsimp only [zz_s1, zz_s2, zz_kill, zz_ent, zz_fl, List.set_cons_zero, List.set_cons_succ, List.getElem?_cons_zero, List.getElem?_cons_succ, Option.toList_some, Option.toList_none, List.cons_append, List.nil_append, List.append_nil, List.length_cons, List.length_nil, List.replicate_succ, List.replicate_zero, Nat.reduceAdd, Nat.reduceSub]
            rw [nI_1]
            refine ih2 (h + 1) (by omega) (fun h' hh' => ?_)
            by_cases e : h' = h
            · rw [e]
              refine Classical.byContradiction fun z => q6 ((hs0 _ _).mpr fun b hb => ?_)
              obtain ⟨y1, y2⟩ := (hS h (by omega) b).mp hb
              rw [hE a' (by omega) b (by omega)]
              cases y3 : E a' b with
              | true => rfl
              | false => exact absurd ⟨b, by omega, ltW_t.mpr y1, y2, y3, by omega⟩ z
            · exact f h' (by omega)
      refine zz_iload rfl dX10_lonely_27 ?_
      refine zz_iload rfl dX10_lonely_29 ?_
      refine zz_ishr dX10_lonely_31 ?_
      refine zz_iconst (v := 1) (by decide) dX10_lonely_32 ?_
      refine zz_iand dX10_lonely_33 ?_
      try dsimp only [zz_s1, zz_s2, zz_kill, zz_ent, zz_fl, List.set_cons_zero, List.set_cons_succ, List.getElem?_cons_zero, List.getElem?_cons_succ, Option.toList_some, Option.toList_none, List.cons_append, List.nil_append, List.append_nil, List.length_cons, List.length_nil, List.replicate_succ, List.replicate_zero, Nat.reduceAdd, Nat.reduceSub]
      refine zz_if_ne (tgt := 41) dX10_lonely_34 (by decide) (fun q3 => ?_) (fun q3 => ?_)
      · refine zz_iconst (v := 0) (by decide) dX10_lonely_41 ?_
        refine zz_istore dX10_lonely_42 (by decide) ?_
        refine zz_iconst (v := 0) (by decide) dX10_lonely_44 ?_
        refine zz_istore dX10_lonely_45 (by decide) ?_
        try dsimp only [zz_s1, zz_s2, zz_kill, zz_ent, zz_fl, List.set_cons_zero, List.set_cons_succ, List.getElem?_cons_zero, List.getElem?_cons_succ, Option.toList_some, Option.toList_none, List.cons_append, List.nil_append, List.append_nil, List.length_cons, List.length_nil, List.replicate_succ, List.replicate_zero, Nat.reduceAdd, Nat.reduceSub]
        exact skip 0
      · skip
        refine zz_iconst (v := 1) (by decide) dX10_lonely_37 ?_
        refine zz_goto (tgt := 42) dX10_lonely_38 (by decide) ?_
        refine zz_istore dX10_lonely_42 (by decide) ?_
        refine zz_iconst (v := 0) (by decide) dX10_lonely_44 ?_
        refine zz_istore dX10_lonely_45 (by decide) ?_
        try dsimp only [zz_s1, zz_s2, zz_kill, zz_ent, zz_fl, List.set_cons_zero, List.set_cons_succ, List.getElem?_cons_zero, List.getElem?_cons_succ, Option.toList_some, Option.toList_none, List.cons_append, List.nil_append, List.append_nil, List.length_cons, List.length_nil, List.replicate_succ, List.replicate_zero, Nat.reduceAdd, Nat.reduceSub]
        exact inner (eS.mp q3) u 0 (by omega) (fun h' hh' => by omega)
  exact outer (n - a) a 0 0 (fun _ => 0) _ _ (by omega) (by omega) (fun i hi => by omega) (fun i j _ hj => by omega) (fun y _ _ i hi => by omega)
def HFS (M : zz_M) (l n k : Nat) (E : Nat → Nat → Bool) (c : Nat) : Prop := ∀ (d : Nat) (I : zz_I) (J : zz_J) (Q : zz_Q) (a u : Nat) (g : Nat → Nat), a + c = n → I 260 l = nI n → (∀ a, a < 24 → ∀ b, b < 32 → bt (I 262 (24 * l + a)) b = E a b) → (∀ b, b < a → I 271 b = nI (g b)) → (∀ h, h < 24 → ∀ x, bt (I 272 h) x = true ↔ x < a ∧ g x = h) → hp_w n E u (ltW a) g → u ≤ k →
  (∀ I' : zz_I, (∀ c, c ≠ 271 → c ≠ 272 → I' c = I c) → (∀ b, b < a → I' 271 b = I 271 b) → (∀ h, I' 272 h = I 272 h) → ¬ hp_x n E k (ltW a) g → Q (some (.int 0)) M I' J) →
  (∀ (I' : zz_I) (r : Nat → Nat), (∀ c, c ≠ 271 → c ≠ 272 → I' c = I c) → (∀ b, b < n → I' 271 b = nI (r b)) → hp_v n E k r → (∀ b, b < a → r b = g b) → (∀ f, hp_v n E k f → ∀ c, a ≤ c → c < n → (∀ b, b < c → f b = r b) → r c ≤ f c) → Q (some (.int 1)) M I' J) →
  zz_D mX10_heapFrom (d + c + 1) [.ref 259, .int (nI l), .int (nI a), .int (nI u), .int (nI k)] M I J Q
theorem HFS_body (hO : OK M) (hl : l < 8) (hn : n ≤ 24) (hk : k ≤ 24) (hE : wfE n E) (c : Nat) (rec : ∀ c', c = c' + 1 → HFS M l n k E c') : HFS M l n k E c := by
  intro d I J Q a u g hac h258 h260 h269 h270 hW hu hQ0 hQ1
  have sy : ∀ x y, E x y = true → E y x = true := fun x y z => (hE x y z).2.2.2
  refine zz_D_of rfl (Nat.le_of_ble_eq_true rfl) ?_
  try dsimp only [zz_s1, zz_s2, zz_kill, zz_ent, zz_fl, List.set_cons_zero, List.set_cons_succ, List.getElem?_cons_zero, List.getElem?_cons_succ, Option.toList_some, Option.toList_none, List.cons_append, List.nil_append, List.append_nil, List.length_cons, List.length_nil, List.replicate_succ, List.replicate_zero, Nat.reduceAdd, Nat.reduceSub]
  refine zz_iload_n rfl dX10_heapFrom_0 ?_
  refine zz_aload_n rfl dX10_heapFrom_1 ?_
  refine zz_getr dX10_heapFrom_2 fX10_9 (fun _ _ _ _ => rfl) (os_259 hO) (or_259_0 hO) ?_
  refine zz_iload_n rfl dX10_heapFrom_5 ?_
  refine zz_iald dX10_heapFrom_6 (os_260 hO) (vp_in_nI hl (by decide)) ?_
  try dsimp only [zz_s1, zz_s2, zz_kill, zz_ent, zz_fl, List.set_cons_zero, List.set_cons_succ, List.getElem?_cons_zero, List.getElem?_cons_succ, Option.toList_some, Option.toList_none, List.cons_append, List.nil_append, List.append_nil, List.length_cons, List.length_nil, List.replicate_succ, List.replicate_zero, Nat.reduceAdd, Nat.reduceSub]
  rw [nI_clamp (show l < 2 ^ 31 by omega), h258]
  refine zz_icmp_ne (tgt := 12) dX10_heapFrom_7 (by decide) (fun q1 => ?_) (fun q1 => ?_)
  rotate_left
  · skip
    have e : a = n := (nI_eq (by omega) (by omega)).mp q1
    subst e
    refine zz_iconst (v := 1) (by decide) dX10_heapFrom_10 ?_
    refine zz_ireturn dX10_heapFrom_11 rfl (by first | rfl | decide | assumption) ?_
    refine hQ1 I g (fun _ _ _ => rfl) h269 ⟨fun x hx => ?_, fun x y hx hy hne e => ?_⟩ (fun _ _ => rfl) (fun f _ c h1 h2 => by omega)
    · have := hW.1 x hx (ltW_t.mpr hx); omega
    · exact hW.2 x y hx hy (ltW_t.mpr hx) (ltW_t.mpr hy) hne e
  have han : a < n := by
    have : ¬ a = n := fun z => q1 (by rw [z])
    omega
  obtain ⟨c', rfl⟩ : ∃ c', c = c' + 1 := ⟨c - 1, by omega⟩
  have ih := rec c' rfl
  have haf : ltW a a = false := ltW_f.mpr (Nat.lt_irrefl a)
  refine zz_iload_n rfl dX10_heapFrom_12 ?_
  refine zz_aload_n rfl dX10_heapFrom_13 ?_
  refine zz_iload_n rfl dX10_heapFrom_14 ?_
  refine zz_iload_n rfl dX10_heapFrom_15 ?_
  refine zz_iload_n rfl dX10_heapFrom_16 ?_
  refine zz_iload rfl dX10_heapFrom_17 ?_
  refine zz_iload_n rfl dX10_heapFrom_19 ?_
  refine zz_isub dX10_heapFrom_20 ?_
  try dsimp only [zz_s1, zz_s2, zz_kill, zz_ent, zz_fl, List.set_cons_zero, List.set_cons_succ, List.getElem?_cons_zero, List.getElem?_cons_succ, Option.toList_some, Option.toList_none, List.cons_append, List.nil_append, List.append_nil, List.length_cons, List.length_nil, List.replicate_succ, List.replicate_zero, Nat.reduceAdd, Nat.reduceSub]
  rw [pk_sub hu]
  refine zz_cV4 dX10_heapFrom_21 lX10_184 rfl (os_259 hO) rfl rfl (Nat.le_of_ble_eq_true rfl) (Nat.le_of_ble_eq_true rfl) ?_
  refine sp_lonely (d + (c' + 1)) hO hl hn hk (show a ≤ n by omega) hu h258 h260 h270 (fun m hm hlo => ?_)
  try dsimp only [zz_s1, zz_s2, zz_kill, zz_ent, zz_fl, List.set_cons_zero, List.set_cons_succ, List.getElem?_cons_zero, List.getElem?_cons_succ, Option.toList_some, Option.toList_none, List.cons_append, List.nil_append, List.append_nil, List.length_cons, List.length_nil, List.replicate_succ, List.replicate_zero, Nat.reduceAdd, Nat.reduceSub]
  refine zz_iadd dX10_heapFrom_24 ?_
  refine zz_iload rfl dX10_heapFrom_25 ?_
  try dsimp only [zz_s1, zz_s2, zz_kill, zz_ent, zz_fl, List.set_cons_zero, List.set_cons_succ, List.getElem?_cons_zero, List.getElem?_cons_succ, Option.toList_some, Option.toList_none, List.cons_append, List.nil_append, List.append_nil, List.length_cons, List.length_nil, List.replicate_succ, List.replicate_zero, Nat.reduceAdd, Nat.reduceSub]
  rw [nI_add]
  refine zz_icmp_le (tgt := 32) dX10_heapFrom_27 (by decide) (fun q2 => ?_) (fun q2 => ?_)
  rotate_left
  · skip
    refine zz_iconst (v := 0) (by decide) dX10_heapFrom_30 ?_
    refine zz_ireturn dX10_heapFrom_31 rfl (by first | rfl | decide | assumption) ?_
    exact hQ0 I (fun _ _ _ => rfl) (fun _ _ => rfl) (fun _ => rfl) (fun hx => q2 (nI_le (hlo hx) (by omega)))
  refine zz_iconst (v := 0) (by decide) dX10_heapFrom_32 ?_
  refine zz_istore dX10_heapFrom_33 (by decide) ?_
  try dsimp only [zz_s1, zz_s2, zz_kill, zz_ent, zz_fl, List.set_cons_zero, List.set_cons_succ, List.getElem?_cons_zero, List.getElem?_cons_succ, Option.toList_some, Option.toList_none, List.cons_append, List.nil_append, List.append_nil, List.length_cons, List.length_nil, List.replicate_succ, List.replicate_zero, Nat.reduceAdd, Nat.reduceSub]
  have loop : ∀ (q h : Nat) (Ix : zz_I), h + q = 25 → (∀ c, c ≠ 271 → c ≠ 272 → Ix c = I c) → (∀ b, b < a → Ix 271 b = I 271 b) → (∀ h, Ix 272 h = I 272 h) → (∀ h', h' < h → ¬ hp_x n E k (ltW (a + 1)) (hp_u g a h')) → zz_G mX10_heapFrom (d + (c' + 1) + 1) 0 35 [some (.ref 259), some (.int (nI l)), some (.int (nI a)), some (.int (nI u)), some (.int (nI k)), some (.int (nI h))] [] M Ix J Q := by
    intro q
    induction q with
    | zero =>
      intro h Ix hh f1 f2 f3 f4
      refine zz_iload rfl dX10_heapFrom_35 ?_
      refine zz_iload_n rfl dX10_heapFrom_37 ?_
      try dsimp only [zz_s1, zz_s2, zz_kill, zz_ent, zz_fl, List.set_cons_zero, List.set_cons_succ, List.getElem?_cons_zero, List.getElem?_cons_succ, Option.toList_some, Option.toList_none, List.cons_append, List.nil_append, List.append_nil, List.length_cons, List.length_nil, List.replicate_succ, List.replicate_zero, Nat.reduceAdd, Nat.reduceSub]
      refine zz_icmp_gt (tgt := 140) dX10_heapFrom_38 (by decide) (fun q3 => ?_) (fun q3 => ?_)
      · refine zz_iconst (v := 0) (by decide) dX10_heapFrom_140 ?_
        refine zz_ireturn dX10_heapFrom_141 rfl (by first | rfl | decide | assumption) ?_
        refine hQ0 Ix f1 f2 f3 (fun hx => ?_)
        rcases hp_br han haf hW.1 hx with ⟨h', y1, y2, y3, y4⟩ | y
        · exact f4 h' (by omega) (by rw [← hp_p_lt]; exact y4)
        · exact f4 u (by omega) (by rw [← hp_p_lt]; exact y.2)
      · exact absurd (nI_lt (show u < h by omega) (by omega)) q3
    | succ q ih2 =>
      intro h Ix hh f1 f2 f3 f4
      refine zz_iload rfl dX10_heapFrom_35 ?_
      refine zz_iload_n rfl dX10_heapFrom_37 ?_
      try dsimp only [zz_s1, zz_s2, zz_kill, zz_ent, zz_fl, List.set_cons_zero, List.set_cons_succ, List.getElem?_cons_zero, List.getElem?_cons_succ, Option.toList_some, Option.toList_none, List.cons_append, List.nil_append, List.append_nil, List.length_cons, List.length_nil, List.replicate_succ, List.replicate_zero, Nat.reduceAdd, Nat.reduceSub]
      refine zz_icmp_gt (tgt := 140) dX10_heapFrom_38 (by decide) (fun q3 => ?_) (fun q3 => ?_)
      · have hlt := (nI_ltI (by omega) (by omega)).mp q3
        refine zz_iconst (v := 0) (by decide) dX10_heapFrom_140 ?_
        refine zz_ireturn dX10_heapFrom_141 rfl (by first | rfl | decide | assumption) ?_
        refine hQ0 Ix f1 f2 f3 (fun hx => ?_)
        rcases hp_br han haf hW.1 hx with ⟨h', y1, y2, y3, y4⟩ | y
        · exact f4 h' (by omega) (by rw [← hp_p_lt]; exact y4)
        · exact f4 u (by omega) (by rw [← hp_p_lt]; exact y.2)
      have hhu : h ≤ u := Nat.le_of_not_lt fun z => q3 (nI_lt z (by omega))
      refine zz_iload rfl dX10_heapFrom_41 ?_
      refine zz_iload rfl dX10_heapFrom_43 ?_
      try dsimp only [zz_s1, zz_s2, zz_kill, zz_ent, zz_fl, List.set_cons_zero, List.set_cons_succ, List.getElem?_cons_zero, List.getElem?_cons_succ, Option.toList_some, Option.toList_none, List.cons_append, List.nil_append, List.append_nil, List.length_cons, List.length_nil, List.replicate_succ, List.replicate_zero, Nat.reduceAdd, Nat.reduceSub]
      refine zz_icmp_ge (tgt := 140) dX10_heapFrom_45 (by decide) (fun q4 => ?_) (fun q4 => ?_)
      · have hge := (nI_leI (by omega) (by omega)).mp q4
        refine zz_iconst (v := 0) (by decide) dX10_heapFrom_140 ?_
        refine zz_ireturn dX10_heapFrom_141 rfl (by first | rfl | decide | assumption) ?_
        refine hQ0 Ix f1 f2 f3 (fun hx => ?_)
        rcases hp_br han haf hW.1 hx with ⟨h', y1, y2, y3, y4⟩ | y
        · exact f4 h' (by omega) (by rw [← hp_p_lt]; exact y4)
        · exact f4 u (by omega) (by rw [← hp_p_lt]; exact y.2)
      have hhk : h < k := Nat.lt_of_not_le fun z => q4 (nI_le z (by omega))
      refine zz_aload_n rfl dX10_heapFrom_48 ?_
      refine zz_getr dX10_heapFrom_49 fX10_61 (fun _ _ _ _ => rfl) (os_259 hO) (or_259_20 hO) ?_
      refine zz_iload rfl dX10_heapFrom_52 ?_
      refine zz_iald dX10_heapFrom_54 (os_272 hO) (vp_in_nI (show h < 24 by omega) (by decide)) ?_
      refine zz_aload_n rfl dX10_heapFrom_55 ?_
      refine zz_getr dX10_heapFrom_56 fX10_16 (fun _ _ _ _ => rfl) (os_259 hO) (or_259_2 hO) ?_
      refine zz_bipush (v := 24) (by decide) dX10_heapFrom_59 ?_
      refine zz_iload_n rfl dX10_heapFrom_61 ?_
      refine zz_imul dX10_heapFrom_62 ?_
      refine zz_iload_n rfl dX10_heapFrom_63 ?_
      refine zz_iadd dX10_heapFrom_64 ?_
      refine zz_iald dX10_heapFrom_65 (os_262 hO) (by rw [ix24]; exact vp_in_nI (show 24 * l + a < 192 by omega) (by decide)) ?_
      refine zz_iconst (v := (-1)) (by decide) dX10_heapFrom_66 ?_
      refine zz_ixor dX10_heapFrom_67 ?_
      refine zz_iand dX10_heapFrom_68 ?_
      try dsimp only [zz_s1, zz_s2, zz_kill, zz_ent, zz_fl, List.set_cons_zero, List.set_cons_succ, List.getElem?_cons_zero, List.getElem?_cons_succ, Option.toList_some, Option.toList_none, List.cons_append, List.nil_append, List.append_nil, List.length_cons, List.length_nil, List.replicate_succ, List.replicate_zero, Nat.reduceAdd, Nat.reduceSub]
      rw [ix24, nI_clamp (show 24 * l + a < 2 ^ 31 by omega), nI_clamp (show h < 2 ^ 31 by omega), f1 262 (by decide) (by decide), f3]
      have efit : (I 272 h &&& (I 262 (24 * l + a) ^^^ (-1)) = 0) ↔ hp_f n E (ltW a) g h a := by
        rw [hs0]
        constructor
        · intro z b hb pb e
          have := z b ((h270 h (by omega) b).mpr ⟨ltW_t.mp pb, e⟩)
          rw [h260 a (by omega) b (by omega)] at this
          exact sy _ _ this
        · intro z b hb
          obtain ⟨y1, y2⟩ := (h270 h (by omega) b).mp hb
          rw [h260 a (by omega) b (by omega)]
          exact sy _ _ (z b (by omega) (ltW_t.mpr y1) y2)
      refine zz_if_eq (tgt := 75) dX10_heapFrom_69 (by decide) (fun q5 => ?_) (fun q5 => ?_)
      rotate_left
      · skip
        refine zz_goto (tgt := 134) dX10_heapFrom_72 (by decide) ?_
        refine zz_iinc dX10_heapFrom_134 rfl (congrArg (HAdd.hAdd _) (show Int32.ofInt 1 = 1 by decide)) (by decide) ?_
        refine zz_goto (tgt := 35) dX10_heapFrom_137 (by decide) ?_
        try dsimp only [zz_s1, zz_s2, zz_kill, zz_ent, zz_fl, List.set_cons_zero, List.set_cons_succ, List.getElem?_cons_zero, List.getElem?_cons_succ, Option.toList_some, Option.toList_none, List.cons_append, List.nil_append, List.append_nil, List.length_cons, List.length_nil, List.replicate_succ, List.replicate_zero, Nat.reduceAdd, Nat.reduceSub]
        rw [nI_1]
        refine ih2 (h + 1) Ix (by omega) f1 f2 f3 (fun h' hh' => ?_)
        by_cases e : h' = h
        · rw [e, ← hp_p_lt]; exact hp_nf han haf (fun z => q5 (efit.mpr z))
        · exact f4 h' (by omega)
      have hff := efit.mp q5
      refine zz_aload_n rfl dX10_heapFrom_75 ?_
      refine zz_getr dX10_heapFrom_76 fX10_61 (fun _ _ _ _ => rfl) (os_259 hO) (or_259_20 hO) ?_
      refine zz_iload rfl dX10_heapFrom_79 ?_
      refine zz_dup2 rfl rfl dX10_heapFrom_81 ?_
      refine zz_iald dX10_heapFrom_82 (os_272 hO) (vp_in_nI (show h < 24 by omega) (by decide)) ?_
      refine zz_iconst (v := 1) (by decide) dX10_heapFrom_83 ?_
      refine zz_iload_n rfl dX10_heapFrom_84 ?_
      refine zz_ishl dX10_heapFrom_85 ?_
      refine zz_ior dX10_heapFrom_86 ?_
      refine zz_iast dX10_heapFrom_87 (os_272 hO) (vp_in_nI (show h < 24 by omega) (by decide)) ?_
      refine zz_aload_n rfl dX10_heapFrom_88 ?_
      refine zz_getr dX10_heapFrom_89 fX10_58 (fun _ _ _ _ => rfl) (os_259 hO) (or_259_19 hO) ?_
      refine zz_iload_n rfl dX10_heapFrom_92 ?_
      refine zz_iload rfl dX10_heapFrom_93 ?_
      refine zz_iast dX10_heapFrom_95 (os_271 hO) (vp_in_nI (show a < 24 by omega) (by decide)) ?_
      refine zz_aload_n rfl dX10_heapFrom_96 ?_
      refine zz_iload_n rfl dX10_heapFrom_97 ?_
      refine zz_iload_n rfl dX10_heapFrom_98 ?_
      refine zz_iconst (v := 1) (by decide) dX10_heapFrom_99 ?_
      refine zz_iadd dX10_heapFrom_100 ?_
      refine zz_iload_n rfl dX10_heapFrom_101 ?_
      refine zz_iload rfl dX10_heapFrom_102 ?_
      refine zz_iconst (v := 1) (by decide) dX10_heapFrom_104 ?_
      refine zz_iadd dX10_heapFrom_105 ?_
      try dsimp only [zz_s1, zz_s2, zz_kill, zz_ent, zz_fl, List.set_cons_zero, List.set_cons_succ, List.getElem?_cons_zero, List.getElem?_cons_succ, Option.toList_some, Option.toList_none, List.cons_append, List.nil_append, List.append_nil, List.length_cons, List.length_nil, List.replicate_succ, List.replicate_zero, Nat.reduceAdd, Nat.reduceSub]
      rw [nI_1, nI_1, nI_clamp (show h < 2 ^ 31 by omega), nI_clamp (show a < 2 ^ 31 by omega), f3]
      refine zz_mmax dX10_heapFrom_106 lX10_188 (Nat.le_of_ble_eq_true rfl) ?_
      try dsimp only [zz_s1, zz_s2, zz_kill, zz_ent, zz_fl, List.set_cons_zero, List.set_cons_succ, List.getElem?_cons_zero, List.getElem?_cons_succ, Option.toList_some, Option.toList_none, List.cons_append, List.nil_append, List.append_nil, List.length_cons, List.length_nil, List.replicate_succ, List.replicate_zero, Nat.reduceAdd, Nat.reduceSub]
      rw [nI_max _ _ (by omega) (by omega)]
      refine zz_iload rfl dX10_heapFrom_109 ?_
      try dsimp only [zz_s1, zz_s2, zz_kill, zz_ent, zz_fl, List.set_cons_zero, List.set_cons_succ, List.getElem?_cons_zero, List.getElem?_cons_succ, Option.toList_some, Option.toList_none, List.cons_append, List.nil_append, List.append_nil, List.length_cons, List.length_nil, List.replicate_succ, List.replicate_zero, Nat.reduceAdd, Nat.reduceSub]
      have hW2 := hp_w_add (h := h) (u' := max u (h + 1)) sy hW (by omega) (by omega) hff
      rw [hp_p_lt] at hW2
      have b1 : ∀ x, bt (I 272 h ||| ((1 : Int32) <<< (nI a &&& 31))) x = (bt (I 272 h) x || decide (x = a)) := fun x => by
        by_cases hx : x < 32
        · rw [b_or, b_bit (by omega) hx]
        · rw [b_big (by omega), b_big (by omega), decide_eq_false (by omega)]; rfl
      have g0 : ∀ c, c ≠ 271 → c ≠ 272 → zz_ui (zz_ui Ix 272 h (I 272 h ||| ((1 : Int32) <<< (nI a &&& 31)))) 271 a (nI h) c = I c := fun c c1 c2 => by rw [zz_ui_ne _ _ _ c1, zz_ui_ne _ _ _ c2]; exact f1 c c1 c2
      have g9 : ∀ b, b < a → zz_ui (zz_ui Ix 272 h (I 272 h ||| ((1 : Int32) <<< (nI a &&& 31)))) 271 a (nI h) 271 b = I 271 b := fun b hb => by rw [zz_ui_at, pk_un (by omega), zz_ui_ne _ _ _ (by decide)]; exact f2 b hb
      have g7 : ∀ h', zz_ui (zz_ui Ix 272 h (I 272 h ||| ((1 : Int32) <<< (nI a &&& 31)))) 271 a (nI h) 272 h' = upd (I 272) h (I 272 h ||| ((1 : Int32) <<< (nI a &&& 31))) h' := fun h' => by
        rw [zz_ui_ne _ _ _ (by decide), zz_ui_at]
        by_cases e : h' = h
        · rw [e, pk_us, pk_us]
        · rw [pk_un e, pk_un e]; exact f3 h'
      refine zz_cV4 dX10_heapFrom_111 lX10_193 rfl (os_259 hO) rfl rfl (Nat.le_of_ble_eq_true rfl) (Nat.le_of_ble_eq_true rfl) ?_
      refine ih d _ J _ (a + 1) (max u (h + 1)) (hp_u g a h) (by omega) (by rw [g0 260 (by decide) (by decide)]; exact h258) (by rw [g0 262 (by decide) (by decide)]; exact h260) (fun b hb => ?_) (fun h' hh' x => ?_) hW2 (by omega) (fun I' p1 p2 p3 p4 => ?_) (fun I' r p1 p2 p3 p4 p5 => ?_)
      · by_cases e : b = a
        · rw [e, zz_ui_at, pk_us, hp_u_s]
        · rw [g9 b (by omega), hp_u_n _ e]; exact h269 b (by omega)
      · rw [g7]
        by_cases e : h' = h
        · rw [e, pk_us, b1, Bool.or_eq_true, decide_eq_true_eq, h270 h (by omega)]
          by_cases e2 : x = a
          · rw [e2, hp_u_s]; exact ⟨fun _ => ⟨by omega, rfl⟩, fun _ => Or.inr rfl⟩
          · rw [hp_u_n _ e2]
            exact ⟨fun z => z.elim (fun y => ⟨by omega, y.2⟩) (fun y => absurd y e2), fun z => Or.inl ⟨by omega, z.2⟩⟩
        · rw [pk_un e, h270 h' hh']
          by_cases e2 : x = a
          · rw [e2, hp_u_s]; exact ⟨fun z => by omega, fun z => absurd z.2.symm e⟩
          · rw [hp_u_n _ e2]
            exact ⟨fun z => ⟨by omega, z.2⟩, fun z => ⟨by omega, z.2⟩⟩
      · try dsimp only [zz_s1, zz_s2, zz_kill, zz_ent, zz_fl, List.set_cons_zero, List.set_cons_succ, List.getElem?_cons_zero, List.getElem?_cons_succ, Option.toList_some, Option.toList_none, List.cons_append, List.nil_append, List.append_nil, List.length_cons, List.length_nil, List.replicate_succ, List.replicate_zero, Nat.reduceAdd, Nat.reduceSub]
        refine zz_if_eq (tgt := 119) dX10_heapFrom_114 (by decide) (fun q6 => ?_) (fun q6 => ?_)
        · refine zz_aload_n rfl dX10_heapFrom_119 ?_
          refine zz_getr dX10_heapFrom_120 fX10_61 (fun _ _ _ _ => rfl) (os_259 hO) (or_259_20 hO) ?_
          refine zz_iload rfl dX10_heapFrom_123 ?_
          refine zz_dup2 rfl rfl dX10_heapFrom_125 ?_
          refine zz_iald dX10_heapFrom_126 (os_272 hO) (vp_in_nI (show h < 24 by omega) (by decide)) ?_
          refine zz_iconst (v := 1) (by decide) dX10_heapFrom_127 ?_
          refine zz_iload_n rfl dX10_heapFrom_128 ?_
          refine zz_ishl dX10_heapFrom_129 ?_
          refine zz_iconst (v := (-1)) (by decide) dX10_heapFrom_130 ?_
          refine zz_ixor dX10_heapFrom_131 ?_
          refine zz_iand dX10_heapFrom_132 ?_
          refine zz_iast dX10_heapFrom_133 (os_272 hO) (vp_in_nI (show h < 24 by omega) (by decide)) ?_
          refine zz_iinc dX10_heapFrom_134 rfl (congrArg (HAdd.hAdd _) (show Int32.ofInt 1 = 1 by decide)) (by decide) ?_
          refine zz_goto (tgt := 35) dX10_heapFrom_137 (by decide) ?_
          try dsimp only [zz_s1, zz_s2, zz_kill, zz_ent, zz_fl, List.set_cons_zero, List.set_cons_succ, List.getElem?_cons_zero, List.getElem?_cons_succ, Option.toList_some, Option.toList_none, List.cons_append, List.nil_append, List.append_nil, List.length_cons, List.length_nil, List.replicate_succ, List.replicate_zero, Nat.reduceAdd, Nat.reduceSub]
          rw [nI_1, nI_clamp (show h < 2 ^ 31 by omega)]
          refine ih2 (h + 1) _ (by omega) (fun c c1 c2 => ?_) (fun b hb => ?_) (fun h' => ?_) (fun h' hh' => ?_)
          · rw [zz_ui_ne _ _ _ c2, p1 c c1 c2]; exact g0 c c1 c2
          · rw [zz_ui_ne _ _ _ (by decide), p2 b (by omega)]; exact g9 b hb
          · rw [zz_ui_at]
            by_cases e : h' = h
            · rw [e, pk_us, p3, g7, pk_us]
              refine b_ext (fun i hi => ?_)
              rw [bt_off _ (by omega)]
              unfold rm
              rw [b1]
              by_cases e2 : i = a
              · rw [e2]
                cases z : bt (I 272 h) a with
                | false => simp
                | true => have := ((h270 h (by omega) a).mp z).1; omega
              · simp [e2]
            · rw [pk_un e, p3, g7, pk_un e]
          · by_cases e : h' = h
            · rw [e]; exact p4
            · exact f4 h' (by omega)
        · exact absurd rfl q6
      · try dsimp only [zz_s1, zz_s2, zz_kill, zz_ent, zz_fl, List.set_cons_zero, List.set_cons_succ, List.getElem?_cons_zero, List.getElem?_cons_succ, Option.toList_some, Option.toList_none, List.cons_append, List.nil_append, List.append_nil, List.length_cons, List.length_nil, List.replicate_succ, List.replicate_zero, Nat.reduceAdd, Nat.reduceSub]
        refine zz_if_eq (tgt := 119) dX10_heapFrom_114 (by decide) (fun q6 => ?_) (fun q6 => ?_)
        · exact absurd q6 (by decide)
        · skip
          refine zz_iconst (v := 1) (by decide) dX10_heapFrom_117 ?_
          refine zz_ireturn dX10_heapFrom_118 rfl (by first | rfl | decide | assumption) ?_
          refine hQ1 I' r (fun c c1 c2 => (p1 c c1 c2).trans (g0 c c1 c2)) p2 p3 (fun b hb => by rw [p4 b (by omega), hp_u_n _ (by omega)]) (fun f hf c hc1 hc2 hag => ?_)
          by_cases e : c = a
          · rw [e, p4 a (by omega), hp_u_s]
            refine Nat.le_of_not_lt fun z => f4 (f a) z ?_
            rw [← hp_p_lt]
            exact hp_up hf (fun x _ px => by
              have hx := ltW_t.mp px
              rw [hag x (by omega), p4 x (by omega), hp_u_n _ (by omega)])
          · exact p5 f hf c (by omega) hc2 hag
  exact loop 25 0 I (by omega) (fun _ _ _ => rfl) (fun _ _ => rfl) (fun _ => rfl) (fun h' hh' => by omega)
theorem sp_heapFrom (hO : OK M) (hl : l < 8) (hn : n ≤ 24) (hk : k ≤ 24) (hE : wfE n E) : ∀ c, HFS M l n k E c
  | 0 => HFS_body hO hl hn hk hE 0 (fun c' h => by omega)
  | c + 1 => HFS_body hO hl hn hk hE (c + 1) (fun c' h => by cases h; exact sp_heapFrom hO hl hn hk hE c)
theorem sp_heapsOf (d : Nat) (hO : OK M) {kd ag : Int32} {sg : Nat → Int32} {rw : Nat → Nat → Int32} (hl : l < 8) (hn1 : 1 ≤ n) (hn : n ≤ 24) (hE : wfE n E) (hc : ML I l n kd ag E sg rw) (hQ : ∀ (I' : zz_I) (J' : zz_J) (kk : Nat) (r : Nat → Nat), (∀ c, c ≠ 259 → c ≠ 271 → c ≠ 272 → I' c = I c) → (∀ i, i ≠ 13 → I' 259 i = I 259 i) → (∀ c, c ≠ 269 → J' c = J c) → hp_N n E (hp_a n E) kk → hp_L n E kk r → (∀ b, b < n → I' 271 b = nI (r b)) → Q (some (.int (nI kk))) M I' J') : zz_D mX10_heapsOf (d + 68) [.ref 259, .int (nI l)] M I J Q := by
  have e64 : n ^ 1 ≤ 64 := by rw [Nat.pow_one]; omega
  refine zz_D_of rfl (Nat.le_of_ble_eq_true rfl) ?_
  try dsimp only [zz_s1, zz_s2, zz_kill, zz_ent, zz_fl, List.set_cons_zero, List.set_cons_succ, List.getElem?_cons_zero, List.getElem?_cons_succ, Option.toList_some, Option.toList_none, List.cons_append, List.nil_append, List.append_nil, List.length_cons, List.length_nil, List.replicate_succ, List.replicate_zero, Nat.reduceAdd, Nat.reduceSub]
  refine zz_aload_n rfl dX10_heapsOf_0 ?_
  refine zz_iload_n rfl dX10_heapsOf_1 ?_
  refine zz_iconst (v := 1) (by decide) dX10_heapsOf_2 ?_
  refine zz_bipush (v := 64) (by decide) dX10_heapsOf_3 ?_
  try dsimp only [zz_s1, zz_s2, zz_kill, zz_ent, zz_fl, List.set_cons_zero, List.set_cons_succ, List.getElem?_cons_zero, List.getElem?_cons_succ, Option.toList_some, Option.toList_none, List.cons_append, List.nil_append, List.append_nil, List.length_cons, List.length_nil, List.replicate_succ, List.replicate_zero, Nat.reduceAdd, Nat.reduceSub]
  refine zz_cV3 dX10_heapsOf_5 lX10_168 rfl (os_259 hO) rfl rfl (Nat.le_of_ble_eq_true rfl) (Nat.le_of_ble_eq_true rfl) ?_
  refine sp_spell (k := 1) (mo := 64) (d + 64) hO hl hn1 hn hc (by decide) (by decide) (fun z => absurd e64 z) (fun _ J1 a1 a2 => ?_)
  try dsimp only [zz_s1, zz_s2, zz_kill, zz_ent, zz_fl, List.set_cons_zero, List.set_cons_succ, List.getElem?_cons_zero, List.getElem?_cons_succ, Option.toList_some, Option.toList_none, List.cons_append, List.nil_append, List.append_nil, List.length_cons, List.length_nil, List.replicate_succ, List.replicate_zero, Nat.reduceAdd, Nat.reduceSub]
  refine zz_istore_n dX10_heapsOf_8 (by decide) ?_
  refine zz_aload_n rfl dX10_heapsOf_9 ?_
  refine zz_aload_n rfl dX10_heapsOf_10 ?_
  try dsimp only [zz_s1, zz_s2, zz_kill, zz_ent, zz_fl, List.set_cons_zero, List.set_cons_succ, List.getElem?_cons_zero, List.getElem?_cons_succ, Option.toList_some, Option.toList_none, List.cons_append, List.nil_append, List.append_nil, List.length_cons, List.length_nil, List.replicate_succ, List.replicate_zero, Nat.reduceAdd, Nat.reduceSub]
  refine zz_cV0 dX10_heapsOf_11 lX10_171 rfl (os_259 hO) rfl rfl (Nat.le_of_ble_eq_true rfl) (Nat.le_of_ble_eq_true rfl) ?_
  refine sp_all (d + 67) hO e64 (by rw [zz_ui_at, pk_us]) (fun x hx => ?_)
  try dsimp only [zz_s1, zz_s2, zz_kill, zz_ent, zz_fl, List.set_cons_zero, List.set_cons_succ, List.getElem?_cons_zero, List.getElem?_cons_succ, Option.toList_some, Option.toList_none, List.cons_append, List.nil_append, List.append_nil, List.length_cons, List.length_nil, List.replicate_succ, List.replicate_zero, Nat.reduceAdd, Nat.reduceSub]
  refine zz_cV1 dX10_heapsOf_14 lX10_175 rfl (os_259 hO) rfl rfl (Nat.le_of_ble_eq_true rfl) (Nat.le_of_ble_eq_true rfl) ?_
  refine sp_largest d hO e64 (tkB_sy (n := n) hE 1) (tkB_rf 1) a2 (fun i hi => by rw [hx] at hi; exact ltW_t.mp hi) ?_
  rw [hx]
  try dsimp only [zz_s1, zz_s2, zz_kill, zz_ent, zz_fl, List.set_cons_zero, List.set_cons_succ, List.getElem?_cons_zero, List.getElem?_cons_succ, Option.toList_some, Option.toList_none, List.cons_append, List.nil_append, List.append_nil, List.length_cons, List.length_nil, List.replicate_succ, List.replicate_zero, Nat.reduceAdd, Nat.reduceSub]
  refine zz_istore_n dX10_heapsOf_17 (by decide) ?_
  refine zz_iconst (v := 0) (by decide) dX10_heapsOf_18 ?_
  refine zz_istore dX10_heapsOf_19 (by decide) ?_
  try dsimp only [zz_s1, zz_s2, zz_kill, zz_ent, zz_fl, List.set_cons_zero, List.set_cons_succ, List.getElem?_cons_zero, List.getElem?_cons_succ, Option.toList_some, Option.toList_none, List.cons_append, List.nil_append, List.append_nil, List.length_cons, List.length_nil, List.replicate_succ, List.replicate_zero, Nat.reduceAdd, Nat.reduceSub]
  have lw : ∀ (q kk : Nat) (Ix : zz_I) (z4 : Option Value), kk + q = n → hp_a n E ≤ kk → (∀ c, c ≠ 259 → c ≠ 271 → c ≠ 272 → Ix c = I c) → (∀ i, i ≠ 13 → Ix 259 i = I 259 i) → (∀ h, h < 24 → Ix 272 h = 0) → (∀ k', hp_a n E ≤ k' → k' < kk → ¬ ∃ f, hp_v n E k' f) → zz_G mX10_heapsOf (d + 68) 0 42 [some (.ref 259), some (.int (nI l)), some (.int 1), some (.int (nI kk)), z4] [] M Ix J1 Q := by
    intro q
    induction q with
    | zero =>
      intro kk Ix z4 hkk hA f1 f2 f3 f4
      have e : kk = n := by omega
      subst e
      refine zz_aload_n rfl dX10_heapsOf_42 ?_
      refine zz_iload_n rfl dX10_heapsOf_43 ?_
      refine zz_iconst (v := 0) (by decide) dX10_heapsOf_44 ?_
      refine zz_iconst (v := 0) (by decide) dX10_heapsOf_45 ?_
      refine zz_iload_n rfl dX10_heapsOf_46 ?_
      try dsimp only [zz_s1, zz_s2, zz_kill, zz_ent, zz_fl, List.set_cons_zero, List.set_cons_succ, List.getElem?_cons_zero, List.getElem?_cons_succ, Option.toList_some, Option.toList_none, List.cons_append, List.nil_append, List.append_nil, List.length_cons, List.length_nil, List.replicate_succ, List.replicate_zero, Nat.reduceAdd, Nat.reduceSub]
      refine zz_cV4 dX10_heapsOf_47 lX10_193 rfl (os_259 hO) rfl rfl (Nat.le_of_ble_eq_true rfl) (Nat.le_of_ble_eq_true rfl) ?_
      rw [show d + 67 = d + (66 - kk) + kk + 1 by omega]
      refine sp_heapFrom hO hl hn hn hE kk (d + (66 - kk)) Ix J1 _ 0 0 (fun _ => 0) (by omega) (by rw [f1 260 (by decide) (by decide) (by decide)]; exact hc.2.1) (by rw [f1 262 (by decide) (by decide) (by decide)]; exact hc.2.2.2.1) (fun b hb => by omega) (fun h hh x => ?_) ⟨fun x _ z => absurd (ltW_t.mp z) (Nat.not_lt_zero x), fun x y _ _ z => absurd (ltW_t.mp z) (Nat.not_lt_zero x)⟩ (Nat.zero_le _) (fun I' p1 p2 p3 p4 => ?_) (fun I' r p1 p2 p3 p4 p5 => ?_)
      · rw [f3 h hh, b_0]; exact ⟨fun z => (by cases z), fun z => (by omega)⟩
      · exact absurd ((hp_x0 (fun x _ => ltW_f.mpr (Nat.not_lt_zero x))).mpr hp_id) p4
      · try dsimp only [zz_s1, zz_s2, zz_kill, zz_ent, zz_fl, List.set_cons_zero, List.set_cons_succ, List.getElem?_cons_zero, List.getElem?_cons_succ, Option.toList_some, Option.toList_none, List.cons_append, List.nil_append, List.append_nil, List.length_cons, List.length_nil, List.replicate_succ, List.replicate_zero, Nat.reduceAdd, Nat.reduceSub]
        refine zz_if_ne (tgt := 59) dX10_heapsOf_50 (by decide) (fun q1 => ?_) (fun q1 => ?_)
        · refine zz_iload_n rfl dX10_heapsOf_59 ?_
          refine zz_ireturn dX10_heapsOf_60 rfl (by first | rfl | decide | assumption) ?_
          exact hQ I' J1 kk r (fun c c1 c2 c3 => (p1 c c2 c3).trans (f1 c c1 c2 c3)) (fun i hi => by rw [p1 259 (by decide) (by decide)]; exact f2 i hi) a1 ⟨hA, hp_id, f4⟩ ⟨p3, fun f hf c hc => p5 f hf c (Nat.zero_le _) hc⟩ p2
        · exact absurd q1 (by decide)
    | succ q ih =>
      intro kk Ix z4 hkk hA f1 f2 f3 f4
      refine zz_aload_n rfl dX10_heapsOf_42 ?_
      refine zz_iload_n rfl dX10_heapsOf_43 ?_
      refine zz_iconst (v := 0) (by decide) dX10_heapsOf_44 ?_
      refine zz_iconst (v := 0) (by decide) dX10_heapsOf_45 ?_
      refine zz_iload_n rfl dX10_heapsOf_46 ?_
      try dsimp only [zz_s1, zz_s2, zz_kill, zz_ent, zz_fl, List.set_cons_zero, List.set_cons_succ, List.getElem?_cons_zero, List.getElem?_cons_succ, Option.toList_some, Option.toList_none, List.cons_append, List.nil_append, List.append_nil, List.length_cons, List.length_nil, List.replicate_succ, List.replicate_zero, Nat.reduceAdd, Nat.reduceSub]
      refine zz_cV4 dX10_heapsOf_47 lX10_193 rfl (os_259 hO) rfl rfl (Nat.le_of_ble_eq_true rfl) (Nat.le_of_ble_eq_true rfl) ?_
      rw [show d + 67 = d + (66 - n) + n + 1 by omega]
      refine sp_heapFrom hO hl hn (show kk ≤ 24 by omega) hE n (d + (66 - n)) Ix J1 _ 0 0 (fun _ => 0) (by omega) (by rw [f1 260 (by decide) (by decide) (by decide)]; exact hc.2.1) (by rw [f1 262 (by decide) (by decide) (by decide)]; exact hc.2.2.2.1) (fun b hb => by omega) (fun h hh x => ?_) ⟨fun x _ z => absurd (ltW_t.mp z) (Nat.not_lt_zero x), fun x y _ _ z => absurd (ltW_t.mp z) (Nat.not_lt_zero x)⟩ (Nat.zero_le _) (fun I' p1 p2 p3 p4 => ?_) (fun I' r p1 p2 p3 p4 p5 => ?_)
      · rw [f3 h hh, b_0]; exact ⟨fun z => (by cases z), fun z => (by omega)⟩
      · try dsimp only [zz_s1, zz_s2, zz_kill, zz_ent, zz_fl, List.set_cons_zero, List.set_cons_succ, List.getElem?_cons_zero, List.getElem?_cons_succ, Option.toList_some, Option.toList_none, List.cons_append, List.nil_append, List.append_nil, List.length_cons, List.length_nil, List.replicate_succ, List.replicate_zero, Nat.reduceAdd, Nat.reduceSub]
        refine zz_if_ne (tgt := 59) dX10_heapsOf_50 (by decide) (fun q1 => ?_) (fun q1 => ?_)
        · exact absurd rfl q1
        · skip
          refine zz_iinc dX10_heapsOf_53 rfl (congrArg (HAdd.hAdd _) (show Int32.ofInt 1 = 1 by decide)) (by decide) ?_
          refine zz_goto (tgt := 42) dX10_heapsOf_56 (by decide) ?_
          try dsimp only [zz_s1, zz_s2, zz_kill, zz_ent, zz_fl, List.set_cons_zero, List.set_cons_succ, List.getElem?_cons_zero, List.getElem?_cons_succ, Option.toList_some, Option.toList_none, List.cons_append, List.nil_append, List.append_nil, List.length_cons, List.length_nil, List.replicate_succ, List.replicate_zero, Nat.reduceAdd, Nat.reduceSub]
          rw [nI_1, show d + (66 - n) + n + 1 + 1 = d + 68 by omega]
          refine ih (kk + 1) I' _ (by omega) (by omega) (fun c c1 c2 c3 => (p1 c c2 c3).trans (f1 c c1 c2 c3)) (fun i hi => by rw [p1 259 (by decide) (by decide)]; exact f2 i hi) (fun h hh => by rw [p3]; exact f3 h hh) (fun k' h1 h2 => ?_)
          by_cases e : k' = kk
          · rw [e]; exact fun z => p4 ((hp_x0 (fun x _ => ltW_f.mpr (Nat.not_lt_zero x))).mpr z)
          · exact f4 k' h1 (by omega)
      · try dsimp only [zz_s1, zz_s2, zz_kill, zz_ent, zz_fl, List.set_cons_zero, List.set_cons_succ, List.getElem?_cons_zero, List.getElem?_cons_succ, Option.toList_some, Option.toList_none, List.cons_append, List.nil_append, List.append_nil, List.length_cons, List.length_nil, List.replicate_succ, List.replicate_zero, Nat.reduceAdd, Nat.reduceSub]
        refine zz_if_ne (tgt := 59) dX10_heapsOf_50 (by decide) (fun q1 => ?_) (fun q1 => ?_)
        · refine zz_iload_n rfl dX10_heapsOf_59 ?_
          refine zz_ireturn dX10_heapsOf_60 rfl (by first | rfl | decide | assumption) ?_
          exact hQ I' J1 kk r (fun c c1 c2 c3 => (p1 c c2 c3).trans (f1 c c1 c2 c3)) (fun i hi => by rw [p1 259 (by decide) (by decide)]; exact f2 i hi) a1 ⟨hA, ⟨r, p3⟩, f4⟩ ⟨p3, fun f hf c hc => p5 f hf c (Nat.zero_le _) hc⟩ p2
        · exact absurd q1 (by decide)
  have l1 : ∀ (q h : Nat) (Ix : zz_I), h + q = 24 → (∀ c, c ≠ 259 → c ≠ 271 → c ≠ 272 → Ix c = I c) → (∀ i, i ≠ 13 → Ix 259 i = I 259 i) → (∀ h', h' < h → Ix 272 h' = 0) → zz_G mX10_heapsOf (d + 68) 0 21 [some (.ref 259), some (.int (nI l)), some (.int 1), some (.int (nI (hp_a n E))), some (.int (nI h))] [] M Ix J1 Q := by
    intro q
    induction q with
    | zero =>
      intro h Ix hh f1 f2 f3
      have e : h = 24 := by omega
      subst e
      refine zz_iload rfl dX10_heapsOf_21 ?_
      refine zz_bipush (v := 24) (by decide) dX10_heapsOf_23 ?_
      try dsimp only [zz_s1, zz_s2, zz_kill, zz_ent, zz_fl, List.set_cons_zero, List.set_cons_succ, List.getElem?_cons_zero, List.getElem?_cons_succ, Option.toList_some, Option.toList_none, List.cons_append, List.nil_append, List.append_nil, List.length_cons, List.length_nil, List.replicate_succ, List.replicate_zero, Nat.reduceAdd, Nat.reduceSub]
      refine zz_icmp_ge (tgt := 42) dX10_heapsOf_25 (by decide) (fun q1 => ?_) (fun q1 => ?_)
      · have := hp_an (n := n) (E := E)
        exact lw (n - hp_a n E) (hp_a n E) Ix _ (by omega) (Nat.le_refl _) f1 f2 f3 (fun k' h1 h2 => by omega)
      · exact absurd (Int32.le_refl _) q1
    | succ q ih =>
      intro h Ix hh f1 f2 f3
      refine zz_iload rfl dX10_heapsOf_21 ?_
      refine zz_bipush (v := 24) (by decide) dX10_heapsOf_23 ?_
      try dsimp only [zz_s1, zz_s2, zz_kill, zz_ent, zz_fl, List.set_cons_zero, List.set_cons_succ, List.getElem?_cons_zero, List.getElem?_cons_succ, Option.toList_some, Option.toList_none, List.cons_append, List.nil_append, List.append_nil, List.length_cons, List.length_nil, List.replicate_succ, List.replicate_zero, Nat.reduceAdd, Nat.reduceSub]
      refine zz_icmp_ge (tgt := 42) dX10_heapsOf_25 (by decide) (fun q1 => ?_) (fun q1 => ?_)
      · exact absurd q1 (nI_ge (b := 24) (by omega) (by decide))
      · skip
        refine zz_aload_n rfl dX10_heapsOf_28 ?_
        refine zz_getr dX10_heapsOf_29 fX10_61 (fun _ _ _ _ => rfl) (os_259 hO) (or_259_20 hO) ?_
        refine zz_iload rfl dX10_heapsOf_32 ?_
        refine zz_iconst (v := 0) (by decide) dX10_heapsOf_34 ?_
        refine zz_iast dX10_heapsOf_35 (os_272 hO) (vp_in_nI (show h < 24 by omega) (by decide)) ?_
        refine zz_iinc dX10_heapsOf_36 rfl (congrArg (HAdd.hAdd _) (show Int32.ofInt 1 = 1 by decide)) (by decide) ?_
        refine zz_goto (tgt := 21) dX10_heapsOf_39 (by decide) ?_
        try dsimp only [zz_s1, zz_s2, zz_kill, zz_ent, zz_fl, List.set_cons_zero, List.set_cons_succ, List.getElem?_cons_zero, List.getElem?_cons_succ, Option.toList_some, Option.toList_none, List.cons_append, List.nil_append, List.append_nil, List.length_cons, List.length_nil, List.replicate_succ, List.replicate_zero, Nat.reduceAdd, Nat.reduceSub]
        rw [nI_1, nI_clamp (show h < 2 ^ 31 by omega)]
        refine ih (h + 1) _ (by omega) (fun c c1 c2 c3 => ?_) (fun i hi => ?_) (fun h' hh' => ?_)
        · rw [zz_ui_ne _ _ _ c3]; exact f1 c c1 c2 c3
        · rw [zz_ui_ne _ _ _ (by decide)]; exact f2 i hi
        · rw [zz_ui_at]
          by_cases e : h' = h
          · rw [e, pk_us]
          · rw [pk_un e]; exact f3 h' (by omega)
  refine l1 24 0 _ (by omega) (fun c c1 _ _ => ?_) (fun i hi => ?_) (fun h' hh' => by omega)
  · rw [zz_ui_ne _ _ _ c1]
  · rw [zz_ui_at, pk_un hi]
theorem sp_X10_heaps (d : Nat) (hO : OK M) {l : Int32} {n : Nat → Nat} {kd ag : Nat → Int32} {E : Nat → Nat → Nat → Bool} {sg : Nat → Nat → Int32} {rw : Nat → Nat → Nat → Int32} (hn : ∀ j, j < 8 → 1 ≤ n j ∧ n j ≤ 24) (hE : ∀ j, j < 8 → wfE (n j) (E j)) (hC : ∀ j, j < 8 → ML I j (n j) (kd j) (ag j) (E j) (sg j) (rw j))
    (h1 : ∀ j, j < 8 → l = nI j → ∀ (I' : zz_I) (J' : zz_J) (kk : Nat) (r : Nat → Nat), (∀ c, c ≠ 259 → c ≠ 271 → c ≠ 272 → c ≠ 273 → I' c = I c) → (∀ i, i ≠ 13 → i ≠ 21 → I' 259 i = I 259 i) → I' 259 21 = nI (n j) → (∀ c, c ≠ 269 → J' c = J c) → hp_N (n j) (E j) (hp_a (n j) (E j)) kk → hp_L (n j) (E j) kk r → (∀ a, a < n j → I' 273 a = nI (r a)) → Q (some (.int (nI kk))) M I' J')
    (h2 : ¬ vp_in l 8 → Q (some (.int (-2))) M I J) : zz_D mX10_heaps (d + 69) [.ref 259, .int l] M I J Q := by
  refine zz_D_of rfl (Nat.le_of_ble_eq_true rfl) ?_
  try dsimp only [zz_s1, zz_s2, zz_kill, zz_ent, zz_fl, List.set_cons_zero, List.set_cons_succ, List.getElem?_cons_zero, List.getElem?_cons_succ, Option.toList_some, Option.toList_none, List.cons_append, List.nil_append, List.append_nil, List.length_cons, List.length_nil, List.replicate_succ, List.replicate_zero, Nat.reduceAdd, Nat.reduceSub]
  refine zz_iload_n rfl dX10_heaps_0 ?_
  try dsimp only [zz_s1, zz_s2, zz_kill, zz_ent, zz_fl, List.set_cons_zero, List.set_cons_succ, List.getElem?_cons_zero, List.getElem?_cons_succ, Option.toList_some, Option.toList_none, List.cons_append, List.nil_append, List.append_nil, List.length_cons, List.length_nil, List.replicate_succ, List.replicate_zero, Nat.reduceAdd, Nat.reduceSub]
  refine zz_cS1 dX10_heaps_1 lX10_85 rfl (Nat.le_of_ble_eq_true rfl) (Nat.le_of_ble_eq_true rfl) ?_
  refine sp_isLine (d + 67) (fun r hr => ?_)
  try dsimp only [zz_s1, zz_s2, zz_kill, zz_ent, zz_fl, List.set_cons_zero, List.set_cons_succ, List.getElem?_cons_zero, List.getElem?_cons_succ, Option.toList_some, Option.toList_none, List.cons_append, List.nil_append, List.append_nil, List.length_cons, List.length_nil, List.replicate_succ, List.replicate_zero, Nat.reduceAdd, Nat.reduceSub]
  refine zz_if_ne (tgt := 10) dX10_heaps_4 (by decide) (fun q1 => ?_) (fun q1 => ?_)
  rotate_left
  · skip
    refine zz_bipush (v := (-2)) (by decide) dX10_heaps_7 ?_
    refine zz_ireturn dX10_heaps_9 rfl (by first | rfl | decide | assumption) ?_
    exact h2 (hr.f q1)
  obtain ⟨j, hj, rfl⟩ := vp_in_of (hr.t q1) (by decide)
  have hc := hC j hj
  have hnj := hn j hj
  refine zz_aload_n rfl dX10_heaps_10 ?_
  refine zz_iload_n rfl dX10_heaps_11 ?_
  try dsimp only [zz_s1, zz_s2, zz_kill, zz_ent, zz_fl, List.set_cons_zero, List.set_cons_succ, List.getElem?_cons_zero, List.getElem?_cons_succ, Option.toList_some, Option.toList_none, List.cons_append, List.nil_append, List.append_nil, List.length_cons, List.length_nil, List.replicate_succ, List.replicate_zero, Nat.reduceAdd, Nat.reduceSub]
  refine zz_cV1 dX10_heaps_12 lX10_196 rfl (os_259 hO) rfl rfl (Nat.le_of_ble_eq_true rfl) (Nat.le_of_ble_eq_true rfl) ?_
  refine sp_heapsOf d hO hj hnj.1 hnj.2 (hE j hj) hc (fun I1 J1 kk r a1 a2 a3 a4 a5 a6 => ?_)
  try dsimp only [zz_s1, zz_s2, zz_kill, zz_ent, zz_fl, List.set_cons_zero, List.set_cons_succ, List.getElem?_cons_zero, List.getElem?_cons_succ, Option.toList_some, Option.toList_none, List.cons_append, List.nil_append, List.append_nil, List.length_cons, List.length_nil, List.replicate_succ, List.replicate_zero, Nat.reduceAdd, Nat.reduceSub]
  refine zz_istore_n dX10_heaps_15 (by decide) ?_
  refine zz_aload_n rfl dX10_heaps_16 ?_
  refine zz_aload_n rfl dX10_heaps_17 ?_
  refine zz_getr dX10_heaps_18 fX10_9 (fun _ _ _ _ => rfl) (os_259 hO) (or_259_0 hO) ?_
  refine zz_iload_n rfl dX10_heaps_21 ?_
  refine zz_iald dX10_heaps_22 (os_260 hO) (vp_in_nI hj (by decide)) ?_
  refine zz_puti dX10_heaps_23 fX10_200 rfl (fun q h => by cases h; rfl) (os_259 hO) ?_
  refine zz_iconst (v := 0) (by decide) dX10_heaps_26 ?_
  refine zz_istore_n dX10_heaps_27 (by decide) ?_
  try dsimp only [zz_s1, zz_s2, zz_kill, zz_ent, zz_fl, List.set_cons_zero, List.set_cons_succ, List.getElem?_cons_zero, List.getElem?_cons_succ, Option.toList_some, Option.toList_none, List.cons_append, List.nil_append, List.append_nil, List.length_cons, List.length_nil, List.replicate_succ, List.replicate_zero, Nat.reduceAdd, Nat.reduceSub]
  rw [nI_clamp (show j < 2 ^ 31 by omega), a1 260 (by decide) (by decide) (by decide), hc.2.1]
  have loop : ∀ (q a : Nat) (Ix : zz_I), a + q = n j → (∀ c, c ≠ 259 → c ≠ 271 → c ≠ 272 → c ≠ 273 → Ix c = I c) → (∀ i, i ≠ 13 → i ≠ 21 → Ix 259 i = I 259 i) → Ix 259 21 = nI (n j) → (∀ b, b < n j → Ix 271 b = nI (r b)) → (∀ b, b < a → Ix 273 b = nI (r b)) → zz_G mX10_heaps (d + 69) 0 28 [some (.ref 259), some (.int (nI j)), some (.int (nI kk)), some (.int (nI a))] [] M Ix J1 Q := by
    intro q
    induction q with
    | zero =>
      intro a Ix ha f1 f2 f3 f4 f5
      refine zz_iload_n rfl dX10_heaps_28 ?_
      refine zz_aload_n rfl dX10_heaps_29 ?_
      refine zz_geti dX10_heaps_30 fX10_200 rfl (os_259 hO) ?_
      try dsimp only [zz_s1, zz_s2, zz_kill, zz_ent, zz_fl, List.set_cons_zero, List.set_cons_succ, List.getElem?_cons_zero, List.getElem?_cons_succ, Option.toList_some, Option.toList_none, List.cons_append, List.nil_append, List.append_nil, List.length_cons, List.length_nil, List.replicate_succ, List.replicate_zero, Nat.reduceAdd, Nat.reduceSub]
      rw [f3]
      refine zz_icmp_ge (tgt := 54) dX10_heaps_33 (by decide) (fun q2 => ?_) (fun q2 => ?_)
      · refine zz_iload_n rfl dX10_heaps_54 ?_
        refine zz_ireturn dX10_heaps_55 rfl (by first | rfl | decide | assumption) ?_
        exact h1 j hj rfl Ix J1 kk r f1 f2 f3 a3 a4 a5 (fun b hb => f5 b (by omega))
      · exact absurd (nI_le (show n j ≤ a by omega) (by omega)) q2
    | succ q ih =>
      intro a Ix ha f1 f2 f3 f4 f5
      refine zz_iload_n rfl dX10_heaps_28 ?_
      refine zz_aload_n rfl dX10_heaps_29 ?_
      refine zz_geti dX10_heaps_30 fX10_200 rfl (os_259 hO) ?_
      try dsimp only [zz_s1, zz_s2, zz_kill, zz_ent, zz_fl, List.set_cons_zero, List.set_cons_succ, List.getElem?_cons_zero, List.getElem?_cons_succ, Option.toList_some, Option.toList_none, List.cons_append, List.nil_append, List.append_nil, List.length_cons, List.length_nil, List.replicate_succ, List.replicate_zero, Nat.reduceAdd, Nat.reduceSub]
      rw [f3]
      refine zz_icmp_ge (tgt := 54) dX10_heaps_33 (by decide) (fun q2 => ?_) (fun q2 => ?_)
      · exact absurd q2 (nI_ge (by omega) (by omega))
      · skip
        refine zz_aload_n rfl dX10_heaps_36 ?_
        refine zz_getr dX10_heaps_37 fX10_64 (fun _ _ _ _ => rfl) (os_259 hO) (or_259_22 hO) ?_
        refine zz_iload_n rfl dX10_heaps_40 ?_
        refine zz_aload_n rfl dX10_heaps_41 ?_
        refine zz_getr dX10_heaps_42 fX10_58 (fun _ _ _ _ => rfl) (os_259 hO) (or_259_19 hO) ?_
        refine zz_iload_n rfl dX10_heaps_45 ?_
        refine zz_iald dX10_heaps_46 (os_271 hO) (vp_in_nI (show a < 24 by omega) (by decide)) ?_
        refine zz_iast dX10_heaps_47 (os_273 hO) (vp_in_nI (show a < 24 by omega) (by decide)) ?_
        refine zz_iinc dX10_heaps_48 rfl (congrArg (HAdd.hAdd _) (show Int32.ofInt 1 = 1 by decide)) (by decide) ?_
        refine zz_goto (tgt := 28) dX10_heaps_51 (by decide) ?_
        try dsimp only [zz_s1, zz_s2, zz_kill, zz_ent, zz_fl, List.set_cons_zero, List.set_cons_succ, List.getElem?_cons_zero, List.getElem?_cons_succ, Option.toList_some, Option.toList_none, List.cons_append, List.nil_append, List.append_nil, List.length_cons, List.length_nil, List.replicate_succ, List.replicate_zero, Nat.reduceAdd, Nat.reduceSub]
        rw [nI_1, nI_clamp (show a < 2 ^ 31 by omega)]
        refine ih (a + 1) _ (by omega) (fun c c1 c2 c3 c4 => ?_) (fun i h1 h2 => ?_) ?_ (fun b hb => ?_) (fun b hb => ?_)
        · rw [zz_ui_ne _ _ _ c4]; exact f1 c c1 c2 c3 c4
        · rw [zz_ui_ne _ _ _ (by decide)]; exact f2 i h1 h2
        · rw [zz_ui_ne _ _ _ (by decide)]; exact f3
        · rw [zz_ui_ne _ _ _ (by decide)]; exact f4 b hb
        · rw [zz_ui_at]
          by_cases e : b = a
          · rw [e, pk_us]; exact f4 a (by omega)
          · rw [pk_un e]; exact f5 b (by omega)
  refine loop (n j) 0 _ (by omega) (fun c c1 c2 c3 _ => ?_) (fun i h1 h2 => ?_) ?_ (fun b hb => ?_) (fun b hb => by omega)
  · rw [zz_ui_ne _ _ _ c1]; exact a1 c c1 c2 c3
  · rw [zz_ui_at, pk_un h2]; exact a2 i h1
  · rw [zz_ui_at, pk_us]
  · rw [zz_ui_ne _ _ _ (by decide)]; exact a6 b hb
end PHeapsM

