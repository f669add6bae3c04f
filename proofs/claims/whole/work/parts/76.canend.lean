/-! ===== the class's search for heaps: canEnd, fewest, leastRow ===== -/
/-- what the search knows of the line -/
def CV (I : zz_I) (n k w : Nat) (E : Nat → Nat → Bool) : Prop := I 10 6 = nI n ∧ I 10 7 = nI k ∧ I 10 8 = nI w ∧ ∀ x, x < n → ∀ b, b < 32 → bt (I 11 x) b = E x b
/-- what it holds of the heaps begun -/
def CF (I : zz_I) (n u : Nat) (E : Nat → Nat → Bool) (P : Nat → Bool) (g fr : Nat → Nat) : Prop := kr n P g u fr ∧ ∀ h, h < u → I 13 h = nI (fr h) ∧ ∀ x, x < n → (bt (I 14 h) x = true ↔ hp_f n E P g h x)
/-- the tries so far, and none of the sets kept is of a later one -/
def RTe (J : zz_J) (t : Nat) : Prop := J 10 5 = lN t ∧ ∀ s, s < 512 → ∃ u, u < 2 ^ 63 ∧ J 15 s = lN u ∧ u / 4294967296 ≤ t
theorem MO.rt {J : zz_J} {t : Nat} {D : Nat → Nat → Prop} (h : MO J t D) : RTe J t := ⟨h.1, fun s hs => by
  obtain ⟨u, a, b, c, -⟩ := h.2 s hs
  exact ⟨u, a, b, c⟩⟩
theorem RTe.mo {J : zz_J} {t : Nat} {D : Nat → Nat → Prop} (h : RTe J t) : MO (zz_uj J 10 5 (lN (t + 1))) (t + 1) D := ⟨by rw [zz_uj_at, pk_uLs], fun s hs => by
  obtain ⟨u, a, b, c⟩ := h.2 s hs
  exact ⟨u, a, by rw [zz_uj_ne _ _ _ (by decide)]; exact b, by omega, fun z => by omega⟩⟩
theorem CV_of {I I' : zz_I} {n k w : Nat} {E : Nat → Nat → Bool} (h10 : I' 10 = I 10) (h11 : I' 11 = I 11) (hV : CV I n k w E) : CV I' n k w E := by
  unfold CV
  rw [h10, h11]
  exact hV
theorem CF_of {I I' : zz_I} {n u : Nat} {E : Nat → Nat → Bool} {P : Nat → Bool} {g fr : Nat → Nat} (h13 : I' 13 = I 13) (h14 : ∀ h, h < u → I' 14 h = I 14 h) (hF : CF I n u E P g fr) : CF I' n u E P g fr := ⟨hF.1, fun h hh => by
  rw [h13, h14 h hh]
  exact hF.2 h hh⟩
theorem kf_succ {n u : Nat} {E : Nat → Nat → Bool} {P : Nat → Bool} {g fr : Nat → Nat} {x y : Nat} : kf n E P g (u + 1) fr x y ↔ kf n E P g u fr x y ∨ (x < n ∧ P x = false ∧ fr u = y ∧ hp_f n E P g u x) ∨ (y < n ∧ P y = false ∧ fr u = x ∧ hp_f n E P g u y) := by
  constructor
  · rintro (a | ⟨a1, a2, h, h1, h2, h3⟩ | ⟨a1, a2, h, h1, h2, h3⟩)
    · exact Or.inl (Or.inl a)
    · by_cases e : h = u
      · subst e; exact Or.inr (Or.inl ⟨a1, a2, h2, h3⟩)
      · exact Or.inl (Or.inr (Or.inl ⟨a1, a2, h, by omega, h2, h3⟩))
    · by_cases e : h = u
      · subst e; exact Or.inr (Or.inr ⟨a1, a2, h2, h3⟩)
      · exact Or.inl (Or.inr (Or.inr ⟨a1, a2, h, by omega, h2, h3⟩))
  · rintro ((a | ⟨a1, a2, h, h1, h2, h3⟩ | ⟨a1, a2, h, h1, h2, h3⟩) | ⟨a1, a2, a3, a4⟩ | ⟨a1, a2, a3, a4⟩)
    · exact Or.inl a
    · exact Or.inr (Or.inl ⟨a1, a2, h, by omega, h2, h3⟩)
    · exact Or.inr (Or.inr ⟨a1, a2, h, by omega, h2, h3⟩)
    · exact Or.inr (Or.inl ⟨a1, a2, u, by omega, a3, a4⟩)
    · exact Or.inr (Or.inr ⟨a1, a2, u, by omega, a3, a4⟩)
theorem bt_sh1 (x : Int32) {a b : Nat} (ha : a < 32) (hb : b < 32) {y : Nat} (hy : y < 32) : bt ((jv_ushr x (nI b) &&& 1) <<< (nI a &&& 31)) y = (decide (y = a) && bt x b) := by
  cases c : bt x b with
  | false =>
    rw [(ubit x hb).mpr c, b_shl a ha _ hy, b_0, Bool.and_false, Bool.and_false]
  | true =>
    have h1 : jv_ushr x (nI b) &&& 1 = 1 := (b_low1 _).mpr ((b_ushr b hb x 0).trans c)
    rw [h1, b_bit ha hy, Bool.and_true]
theorem lN_1 (t : Nat) : lN t + 1 = lN (t + 1) := lN_add t 1
section PCanEnd
variable {M : zz_M} {I : zz_I} {J : zz_J} {Q : zz_Q} {n k w u t : Nat} {E : Nat → Nat → Bool} {P : Nat → Bool} {g fr : Nat → Nat}
theorem sp_canEnd (d : Nat) (hO : OK M) {left : Int32} (hn : n ≤ 24) (hk : k ≤ 24) (hw : w ≤ 24) (hE : wfE n E) (hb : hp_b n E w) (ht : t < 2 ^ 30) (hT : RTe J t) (hV : CV I n k w E) (hF : CF I n u E P g fr) (hW : hp_w n E u P g) (hu : u ≤ k) (hL : ∀ x, bt left x = true ↔ x < n ∧ P x = false) (hQ : ∀ (I' : zz_I) (J' : zz_J) (r : Int32), (∀ c, c ≠ 12 → I' c = I c) → (∀ c, c ≠ 10 → c ≠ 15 → J' c = J c) → RTe J' (t + 1) → bo r (hp_x n E k P g) → Q (some (.int r)) M I' J') : zz_D mX2_canEnd (d + 52) [.ref 10, .int left, .int (nI u)] M I J Q := by
  have hr := hF.1
  have hfl : ∀ h, h < u → bt left (fr h) = false := fun h hh => ts_nt (fun z => by
    have := ((hL _).mp z).2
    rw [(hr h hh).2.1] at this; cases this)
  refine zz_D_of rfl (Nat.le_of_ble_eq_true rfl) ?_
  try dsimp only [zz_s1, zz_s2, zz_kill, zz_ent, zz_fl, List.set_cons_zero, List.set_cons_succ, List.getElem?_cons_zero, List.getElem?_cons_succ, Option.toList_some, Option.toList_none, List.cons_append, List.nil_append, List.append_nil, List.length_cons, List.length_nil, List.replicate_succ, List.replicate_zero, Nat.reduceAdd, Nat.reduceSub]
  refine zz_iload_n rfl dX2_canEnd_0 ?_
  refine zz_istore_n dX2_canEnd_1 (by decide) ?_
  refine zz_iconst (v := 0) (by decide) dX2_canEnd_2 ?_
  refine zz_istore dX2_canEnd_3 (by decide) ?_
  try dsimp only [zz_s1, zz_s2, zz_kill, zz_ent, zz_fl, List.set_cons_zero, List.set_cons_succ, List.getElem?_cons_zero, List.getElem?_cons_succ, Option.toList_some, Option.toList_none, List.cons_append, List.nil_append, List.append_nil, List.length_cons, List.length_nil, List.replicate_succ, List.replicate_zero, Nat.reduceAdd, Nat.reduceSub]
  have l2 : ∀ (q h : Nat) (al : Int32) (Ix : zz_I) (z5 z6 z7 : Option Value), h + q = u → (∀ c, c ≠ 12 → Ix c = I c) → (∀ x, bt al x = true ↔ (bt left x = true ∨ ∃ h', h' < h ∧ fr h' = x)) → (∀ x, bt al x = true → ∀ y, y < 32 → (bt (Ix 12 x) y = true ↔ kf n E P g h fr x y)) → zz_G mX2_canEnd (d + 52) 0 39 [some (.ref 10), some (.int left), some (.int (nI u)), some (.int al), some (.int (nI h)), z5, z6, z7] [] M Ix J Q := by
    intro q
    induction q with
    | zero =>
      intro h al Ix z5 z6 z7 hh f1 f2 f3
      have e : h = u := by omega
      subst e
      have hA : ∀ x, bt al x = true ↔ (x < n ∧ P x = false) ∨ ∃ h', h' < h ∧ fr h' = x := fun x => by rw [f2, hL]
      have hlt : ∀ x, bt al x = true → x < n := fun x hx => by
        rcases (hA x).mp hx with z | ⟨h', z1, z2⟩
        · exact z.1
        · rw [← z2]; exact (hr h' z1).1
      have hC : CS Ix n w (bt al) (kf n E P g h fr) := ⟨hn, by rw [f1 10 (by decide)]; exact hV.1, by rw [f1 10 (by decide)]; exact hV.2.2.1, hw, hlt, fun x hx y hy => f3 x hx y (bt_lt hy), kf_sy hE, kf_ir hE hr, kf_b hE hr hlt hb⟩
      refine zz_iload rfl dX2_canEnd_39 ?_
      refine zz_iload_n rfl dX2_canEnd_41 ?_
      try dsimp only [zz_s1, zz_s2, zz_kill, zz_ent, zz_fl, List.set_cons_zero, List.set_cons_succ, List.getElem?_cons_zero, List.getElem?_cons_succ, Option.toList_some, Option.toList_none, List.cons_append, List.nil_append, List.append_nil, List.length_cons, List.length_nil, List.replicate_succ, List.replicate_zero, Nat.reduceAdd, Nat.reduceSub]
      refine zz_icmp_ge (tgt := 125) dX2_canEnd_42 (by decide) (fun q1 => ?_) (fun q1 => ?_)
      · refine zz_aload_n rfl dX2_canEnd_125 ?_
        refine zz_dup rfl dX2_canEnd_126 ?_
        refine zz_getl dX2_canEnd_127 fX2_28 rfl (os_10 hO) ?_
        refine zz_lconst (v := 1) (by decide) dX2_canEnd_130 ?_
        refine zz_ladd dX2_canEnd_131 ?_
        refine zz_putl dX2_canEnd_132 fX2_28 rfl (fun q h => by cases h; rfl) (os_10 hO) ?_
        refine zz_aload_n rfl dX2_canEnd_135 ?_
        refine zz_iload_n rfl dX2_canEnd_136 ?_
        refine zz_aload_n rfl dX2_canEnd_137 ?_
        refine zz_geti dX2_canEnd_138 fX2_36 rfl (os_10 hO) ?_
        refine zz_iconst (v := 0) (by decide) dX2_canEnd_141 ?_
        try dsimp only [zz_s1, zz_s2, zz_kill, zz_ent, zz_fl, List.set_cons_zero, List.set_cons_succ, List.getElem?_cons_zero, List.getElem?_cons_succ, Option.toList_some, Option.toList_none, List.cons_append, List.nil_append, List.append_nil, List.length_cons, List.length_nil, List.replicate_succ, List.replicate_zero, Nat.reduceAdd, Nat.reduceSub]
        rw [hT.1, lN_1, f1 10 (by decide), hV.2.1]
        refine zz_cV3 dX2_canEnd_142 lX2_60 rfl (os_10 hO) rfl rfl (Nat.le_of_ble_eq_true rfl) (Nat.le_of_ble_eq_true rfl) ?_
        have hcl : fb_ct (bt al) 32 ≤ 24 := ct24 (fun x hx => by have := hlt x hx; omega)
        refine (sp_gc hO hC (show t + 1 < 2 ^ 31 by omega) 24).1 d _ _ al k 0 hT.mo (fun _ hx => hx) hk hcl (by omega) (fun J' r j1 j2 j3 => ?_)
        try dsimp only [zz_s1, zz_s2, zz_kill, zz_ent, zz_fl, List.set_cons_zero, List.set_cons_succ, List.getElem?_cons_zero, List.getElem?_cons_succ, Option.toList_some, Option.toList_none, List.cons_append, List.nil_append, List.append_nil, List.length_cons, List.length_nil, List.replicate_succ, List.replicate_zero, Nat.reduceAdd, Nat.reduceSub]
        refine zz_ireturn dX2_canEnd_145 rfl j3.nar ?_
        refine hQ Ix J' r f1 (fun c c1 c2 => ?_) j2.rt (bo.iff j3 (kf_iff hE hA hr hu hW))
        rw [j1 c c2, zz_uj_ne _ _ _ c1]
      · exact absurd (nI_le (Nat.le_refl h) (by omega)) q1
    | succ q ih =>
      intro h al Ix z5 z6 z7 hh f1 f2 f3
      obtain ⟨r1, r2, r3⟩ := hr h (by omega)
      obtain ⟨e13, e14⟩ := hF.2 h (by omega)
      refine zz_iload rfl dX2_canEnd_39 ?_
      refine zz_iload_n rfl dX2_canEnd_41 ?_
      try dsimp only [zz_s1, zz_s2, zz_kill, zz_ent, zz_fl, List.set_cons_zero, List.set_cons_succ, List.getElem?_cons_zero, List.getElem?_cons_succ, Option.toList_some, Option.toList_none, List.cons_append, List.nil_append, List.append_nil, List.length_cons, List.length_nil, List.replicate_succ, List.replicate_zero, Nat.reduceAdd, Nat.reduceSub]
      refine zz_icmp_ge (tgt := 125) dX2_canEnd_42 (by decide) (fun q1 => ?_) (fun q1 => ?_)
      · exact absurd q1 (nI_ge (by omega) (by omega))
      refine zz_aload_n rfl dX2_canEnd_45 ?_
      refine zz_getr dX2_canEnd_46 fX2_18 (fun _ _ _ _ => rfl) (os_10 hO) (or_10_2 hO) ?_
      refine zz_iload rfl dX2_canEnd_49 ?_
      refine zz_iald dX2_canEnd_51 (os_13 hO) (vp_in_nI (show h < 24 by omega) (by decide)) ?_
      refine zz_istore dX2_canEnd_52 (by decide) ?_
      try dsimp only [zz_s1, zz_s2, zz_kill, zz_ent, zz_fl, List.set_cons_zero, List.set_cons_succ, List.getElem?_cons_zero, List.getElem?_cons_succ, Option.toList_some, Option.toList_none, List.cons_append, List.nil_append, List.append_nil, List.length_cons, List.length_nil, List.replicate_succ, List.replicate_zero, Nat.reduceAdd, Nat.reduceSub]
      rw [nI_clamp (show h < 2 ^ 31 by omega), f1 13 (by decide), e13]
      refine zz_aload_n rfl dX2_canEnd_54 ?_
      refine zz_getr dX2_canEnd_55 fX2_21 (fun _ _ _ _ => rfl) (os_10 hO) (or_10_3 hO) ?_
      refine zz_iload rfl dX2_canEnd_58 ?_
      refine zz_iald dX2_canEnd_60 (os_14 hO) (vp_in_nI (show h < 24 by omega) (by decide)) ?_
      refine zz_iload_n rfl dX2_canEnd_61 ?_
      refine zz_iand dX2_canEnd_62 ?_
      refine zz_istore dX2_canEnd_63 (by decide) ?_
      refine zz_iload_n rfl dX2_canEnd_65 ?_
      refine zz_iconst (v := 1) (by decide) dX2_canEnd_66 ?_
      refine zz_iload rfl dX2_canEnd_67 ?_
      refine zz_ishl dX2_canEnd_69 ?_
      refine zz_ior dX2_canEnd_70 ?_
      refine zz_istore_n dX2_canEnd_71 (by decide) ?_
      refine zz_aload_n rfl dX2_canEnd_72 ?_
      refine zz_getr dX2_canEnd_73 fX2_15 (fun _ _ _ _ => rfl) (os_10 hO) (or_10_1 hO) ?_
      refine zz_iload rfl dX2_canEnd_76 ?_
      refine zz_iload rfl dX2_canEnd_78 ?_
      refine zz_iast dX2_canEnd_80 (os_12 hO) (vp_in_nI (show fr h < 24 by omega) (by decide)) ?_
      refine zz_iconst (v := 0) (by decide) dX2_canEnd_81 ?_
      refine zz_istore dX2_canEnd_82 (by decide) ?_
      try dsimp only [zz_s1, zz_s2, zz_kill, zz_ent, zz_fl, List.set_cons_zero, List.set_cons_succ, List.getElem?_cons_zero, List.getElem?_cons_succ, Option.toList_some, Option.toList_none, List.cons_append, List.nil_append, List.append_nil, List.length_cons, List.length_nil, List.replicate_succ, List.replicate_zero, Nat.reduceAdd, Nat.reduceSub]
      rw [nI_clamp (show h < 2 ^ 31 by omega), nI_clamp (show fr h < 2 ^ 31 by omega), f1 14 (by decide)]
      have ho : ∀ x, bt (I 14 h &&& left) x = true ↔ (x < n ∧ P x = false) ∧ hp_f n E P g h x := fun x => by
        rw [b_and, Bool.and_eq_true, hL]
        exact ⟨fun z => ⟨z.2, (e14 x z.2.1).mp z.1⟩, fun z => ⟨(e14 x z.1.1).mpr z.2, z.1⟩⟩
      generalize I 14 h &&& left = oth at ho
      have hoa : bt oth (fr h) = false := ts_nt (fun z => by
        have := ((ho _).mp z).1.2
        rw [r2] at this; cases this)
      have l3 : ∀ (q2 b : Nat) (Iy : zz_I), b + q2 = n → (∀ c, c ≠ 12 → Iy c = I c) → (∀ x, x < n → Iy 12 x = if x < b then zz_ui Ix 12 (fr h) oth 12 x ||| ((jv_ushr oth (nI x) &&& 1) <<< (nI (fr h) &&& 31)) else zz_ui Ix 12 (fr h) oth 12 x) → zz_G mX2_canEnd (d + 52) 0 84 [some (.ref 10), some (.int left), some (.int (nI u)), some (.int (al ||| ((1 : Int32) <<< (nI (fr h) &&& 31)))), some (.int (nI h)), some (.int (nI (fr h))), some (.int oth), some (.int (nI b))] [] M Iy J Q := by
        intro q2
        induction q2 with
        | zero =>
          intro b Iy hb2 k1 k2
          have e : b = n := by omega
          subst e
          refine zz_iload rfl dX2_canEnd_84 ?_
          refine zz_aload_n rfl dX2_canEnd_86 ?_
          refine zz_geti dX2_canEnd_87 fX2_32 rfl (os_10 hO) ?_
          try dsimp only [zz_s1, zz_s2, zz_kill, zz_ent, zz_fl, List.set_cons_zero, List.set_cons_succ, List.getElem?_cons_zero, List.getElem?_cons_succ, Option.toList_some, Option.toList_none, List.cons_append, List.nil_append, List.append_nil, List.length_cons, List.length_nil, List.replicate_succ, List.replicate_zero, Nat.reduceAdd, Nat.reduceSub]
          rw [k1 10 (by decide), hV.1]
          refine zz_icmp_ge (tgt := 119) dX2_canEnd_90 (by decide) (fun q2 => ?_) (fun q2 => ?_)
          · refine zz_iinc dX2_canEnd_119 rfl (congrArg (HAdd.hAdd _) (show Int32.ofInt 1 = 1 by decide)) (by decide) ?_
            refine zz_goto (tgt := 39) dX2_canEnd_122 (by decide) ?_
            try dsimp only [zz_s1, zz_s2, zz_kill, zz_ent, zz_fl, List.set_cons_zero, List.set_cons_succ, List.getElem?_cons_zero, List.getElem?_cons_succ, Option.toList_some, Option.toList_none, List.cons_append, List.nil_append, List.append_nil, List.length_cons, List.length_nil, List.replicate_succ, List.replicate_zero, Nat.reduceAdd, Nat.reduceSub]
            rw [nI_1]
            have hal : ∀ x, bt (al ||| ((1 : Int32) <<< (nI (fr h) &&& 31))) x = true ↔ (bt al x = true ∨ x = fr h) := fun x => by rw [bt_on _ (by omega)]; exact hp_p_t
            have hlt : ∀ x, (bt al x = true ∨ x = fr h) → x < b := fun x hx => by
              rcases hx with z | z
              · rcases (f2 x).mp z with y | ⟨h', y1, y2⟩
                · exact ((hL x).mp y).1
                · rw [← y2]; exact (hr h' (by omega)).1
              · rw [z]; exact r1
            refine ih (h + 1) _ Iy _ _ _ (by omega) k1 (fun x => ?_) (fun x hx y hy => ?_)
            · rw [hal, f2]
              constructor
              · rintro ((z | ⟨h', z1, z2⟩) | z)
                · exact Or.inl z
                · exact Or.inr ⟨h', by omega, z2⟩
                · exact Or.inr ⟨h, by omega, z.symm⟩
              · rintro (z | ⟨h', z1, z2⟩)
                · exact Or.inl (Or.inl z)
                · by_cases e : h' = h
                  · exact Or.inr (by rw [← z2, e])
                  · exact Or.inl (Or.inr ⟨h', by omega, z2⟩)
            · have hx := (hal x).mp hx
              have hxn := hlt x hx
              rw [k2 x hxn, if_pos hxn, b_or, bt_sh1 oth (by omega) (by omega) hy, Bool.or_eq_true, Bool.and_eq_true, decide_eq_true_eq, kf_succ, zz_ui_at]
              by_cases ex : x = fr h
              · rw [ex, pk_us, ho, hoa]
                constructor
                · rintro (z | z)
                  · exact Or.inr (Or.inr ⟨z.1.1, z.1.2, rfl, z.2⟩)
                  · cases z.2
                · rintro ((⟨-, z, -⟩ | ⟨-, z, -⟩ | ⟨z1, z2, h', z3, z4, -⟩) | ⟨-, z, -⟩ | ⟨z1, z2, -, z3⟩)
                  · rw [r2] at z; cases z
                  · rw [r2] at z; cases z
                  · have := (hr h' (by omega)).2.2
                    rw [z4, r3] at this
                    omega
                  · rw [r2] at z; cases z
                  · exact Or.inl ⟨⟨z1, z2⟩, z3⟩
              · have hax := hx.resolve_right ex
                rw [pk_un ex, f3 x hax y hy, ho]
                constructor
                · rintro (z | z)
                  · exact Or.inl z
                  · exact Or.inr (Or.inl ⟨z.2.1.1, z.2.1.2, z.1.symm, z.2.2⟩)
                · rintro (z | ⟨z1, z2, z3, z4⟩ | ⟨z1, z2, z3, z4⟩)
                  · exact Or.inl z
                  · exact Or.inr ⟨z3.symm, ⟨z1, z2⟩, z4⟩
                  · exact absurd z3.symm ex
          · exact absurd (nI_le (Nat.le_refl b) (by omega)) q2
        | succ q2 ih2 =>
          intro b Iy hb2 k1 k2
          refine zz_iload rfl dX2_canEnd_84 ?_
          refine zz_aload_n rfl dX2_canEnd_86 ?_
          refine zz_geti dX2_canEnd_87 fX2_32 rfl (os_10 hO) ?_
          try dsimp only [zz_s1, zz_s2, zz_kill, zz_ent, zz_fl, List.set_cons_zero, List.set_cons_succ, List.getElem?_cons_zero, List.getElem?_cons_succ, Option.toList_some, Option.toList_none, List.cons_append, List.nil_append, List.append_nil, List.length_cons, List.length_nil, List.replicate_succ, List.replicate_zero, Nat.reduceAdd, Nat.reduceSub]
          rw [k1 10 (by decide), hV.1]
          refine zz_icmp_ge (tgt := 119) dX2_canEnd_90 (by decide) (fun q2 => ?_) (fun q2 => ?_)
          · exact absurd q2 (nI_ge (by omega) (by omega))
          refine zz_aload_n rfl dX2_canEnd_93 ?_
          refine zz_getr dX2_canEnd_94 fX2_15 (fun _ _ _ _ => rfl) (os_10 hO) (or_10_1 hO) ?_
          refine zz_iload rfl dX2_canEnd_97 ?_
          refine zz_dup2 rfl rfl dX2_canEnd_99 ?_
          refine zz_iald dX2_canEnd_100 (os_12 hO) (vp_in_nI (show b < 24 by omega) (by decide)) ?_
          refine zz_iload rfl dX2_canEnd_101 ?_
          refine zz_iload rfl dX2_canEnd_103 ?_
          refine zz_iushr dX2_canEnd_105 ?_
          refine zz_iconst (v := 1) (by decide) dX2_canEnd_106 ?_
          refine zz_iand dX2_canEnd_107 ?_
          refine zz_iload rfl dX2_canEnd_108 ?_
          refine zz_ishl dX2_canEnd_110 ?_
          refine zz_ior dX2_canEnd_111 ?_
          refine zz_iast dX2_canEnd_112 (os_12 hO) (vp_in_nI (show b < 24 by omega) (by decide)) ?_
          refine zz_iinc dX2_canEnd_113 rfl (congrArg (HAdd.hAdd _) (show Int32.ofInt 1 = 1 by decide)) (by decide) ?_
          refine zz_goto (tgt := 84) dX2_canEnd_116 (by decide) ?_
          try dsimp only [zz_s1, zz_s2, zz_kill, zz_ent, zz_fl, List.set_cons_zero, List.set_cons_succ, List.getElem?_cons_zero, List.getElem?_cons_succ, Option.toList_some, Option.toList_none, List.cons_append, List.nil_append, List.append_nil, List.length_cons, List.length_nil, List.replicate_succ, List.replicate_zero, Nat.reduceAdd, Nat.reduceSub]
          rw [nI_1, nI_clamp (show b < 2 ^ 31 by omega)]
          refine ih2 (b + 1) _ (by omega) (fun c hc => ?_) (fun x hx => ?_)
          · rw [zz_ui_ne _ _ _ hc]; exact k1 c hc
          · rw [show zz_ui Iy 12 b (Iy 12 b ||| ((jv_ushr oth (nI b) &&& 1) <<< (nI (fr h) &&& 31))) 12 x = upd (Iy 12) b (Iy 12 b ||| ((jv_ushr oth (nI b) &&& 1) <<< (nI (fr h) &&& 31))) x from by rw [zz_ui_at]]
            by_cases e : x = b
            · rw [e, pk_us, if_pos (by omega), k2 b (by omega), if_neg (by omega)]
            · rw [pk_un e, k2 x hx]
              by_cases c : x < b
              · rw [if_pos c, if_pos (by omega)]
              · rw [if_neg c, if_neg (by omega)]
      exact l3 n 0 _ (by omega) (fun c hc => by rw [zz_ui_ne _ _ _ hc]; exact f1 c hc) (fun x hx => by rw [if_neg (by omega)])
  have l1 : ∀ (q b : Nat) (Ix : zz_I), b + q = n → (∀ c, c ≠ 12 → Ix c = I c) → (∀ x, x < b → Ix 12 x = I 11 x &&& left) → zz_G mX2_canEnd (d + 52) 0 5 [some (.ref 10), some (.int left), some (.int (nI u)), some (.int left), some (.int (nI b)), none, none, none] [] M Ix J Q := by
    intro q
    induction q with
    | zero =>
      intro b Ix hb2 f1 f2
      have e : b = n := by omega
      subst e
      refine zz_iload rfl dX2_canEnd_5 ?_
      refine zz_aload_n rfl dX2_canEnd_7 ?_
      refine zz_geti dX2_canEnd_8 fX2_32 rfl (os_10 hO) ?_
      try dsimp only [zz_s1, zz_s2, zz_kill, zz_ent, zz_fl, List.set_cons_zero, List.set_cons_succ, List.getElem?_cons_zero, List.getElem?_cons_succ, Option.toList_some, Option.toList_none, List.cons_append, List.nil_append, List.append_nil, List.length_cons, List.length_nil, List.replicate_succ, List.replicate_zero, Nat.reduceAdd, Nat.reduceSub]
      rw [f1 10 (by decide), hV.1]
      refine zz_icmp_ge (tgt := 36) dX2_canEnd_11 (by decide) (fun q1 => ?_) (fun q1 => ?_)
      · refine zz_iconst (v := 0) (by decide) dX2_canEnd_36 ?_
        refine zz_istore dX2_canEnd_37 (by decide) ?_
        try dsimp only [zz_s1, zz_s2, zz_kill, zz_ent, zz_fl, List.set_cons_zero, List.set_cons_succ, List.getElem?_cons_zero, List.getElem?_cons_succ, Option.toList_some, Option.toList_none, List.cons_append, List.nil_append, List.append_nil, List.length_cons, List.length_nil, List.replicate_succ, List.replicate_zero, Nat.reduceAdd, Nat.reduceSub]
        refine l2 u 0 left Ix _ _ _ (by omega) f1 (fun x => ⟨Or.inl, fun z => z.resolve_right (fun y => by obtain ⟨h', y1, -⟩ := y; omega)⟩) (fun x hx y hy => ?_)
        have hxl := (hL x).mp hx
        rw [f2 x hxl.1, b_and, Bool.and_eq_true, hV.2.2.2 x hxl.1 y hy, hL]
        constructor
        · rintro ⟨z1, z2⟩
          exact Or.inl ⟨hxl.1, hxl.2, z2.1, z2.2, z1⟩
        · rintro (⟨-, -, z1, z2, z3⟩ | ⟨-, -, h', z, -⟩ | ⟨-, -, h', z, -⟩)
          · exact ⟨z3, z1, z2⟩
          · omega
          · omega
      · exact absurd (nI_le (Nat.le_refl b) (by omega)) q1
    | succ q ih =>
      intro b Ix hb2 f1 f2
      refine zz_iload rfl dX2_canEnd_5 ?_
      refine zz_aload_n rfl dX2_canEnd_7 ?_
      refine zz_geti dX2_canEnd_8 fX2_32 rfl (os_10 hO) ?_
      try dsimp only [zz_s1, zz_s2, zz_kill, zz_ent, zz_fl, List.set_cons_zero, List.set_cons_succ, List.getElem?_cons_zero, List.getElem?_cons_succ, Option.toList_some, Option.toList_none, List.cons_append, List.nil_append, List.append_nil, List.length_cons, List.length_nil, List.replicate_succ, List.replicate_zero, Nat.reduceAdd, Nat.reduceSub]
      rw [f1 10 (by decide), hV.1]
      refine zz_icmp_ge (tgt := 36) dX2_canEnd_11 (by decide) (fun q1 => ?_) (fun q1 => ?_)
      · exact absurd q1 (nI_ge (by omega) (by omega))
      refine zz_aload_n rfl dX2_canEnd_14 ?_
      refine zz_getr dX2_canEnd_15 fX2_15 (fun _ _ _ _ => rfl) (os_10 hO) (or_10_1 hO) ?_
      refine zz_iload rfl dX2_canEnd_18 ?_
      refine zz_aload_n rfl dX2_canEnd_20 ?_
      refine zz_getr dX2_canEnd_21 fX2_9 (fun _ _ _ _ => rfl) (os_10 hO) (or_10_0 hO) ?_
      refine zz_iload rfl dX2_canEnd_24 ?_
      refine zz_iald dX2_canEnd_26 (os_11 hO) (vp_in_nI (show b < 24 by omega) (by decide)) ?_
      refine zz_iload_n rfl dX2_canEnd_27 ?_
      refine zz_iand dX2_canEnd_28 ?_
      refine zz_iast dX2_canEnd_29 (os_12 hO) (vp_in_nI (show b < 24 by omega) (by decide)) ?_
      refine zz_iinc dX2_canEnd_30 rfl (congrArg (HAdd.hAdd _) (show Int32.ofInt 1 = 1 by decide)) (by decide) ?_
      refine zz_goto (tgt := 5) dX2_canEnd_33 (by decide) ?_
      try dsimp only [zz_s1, zz_s2, zz_kill, zz_ent, zz_fl, List.set_cons_zero, List.set_cons_succ, List.getElem?_cons_zero, List.getElem?_cons_succ, Option.toList_some, Option.toList_none, List.cons_append, List.nil_append, List.append_nil, List.length_cons, List.length_nil, List.replicate_succ, List.replicate_zero, Nat.reduceAdd, Nat.reduceSub]
      rw [nI_1, nI_clamp (show b < 2 ^ 31 by omega)]
      refine ih (b + 1) _ (by omega) (fun c hc => ?_) (fun x hx => ?_)
      · rw [zz_ui_ne _ _ _ hc]; exact f1 c hc
      · rw [zz_ui_at]
        by_cases e : x = b
        · rw [e, pk_us, f1 11 (by decide)]
        · rw [pk_un e]; exact f2 x (by omega)
  exact l1 n 0 I (by omega) (fun _ _ => rfl) (fun x hx => by omega)
end PCanEnd

