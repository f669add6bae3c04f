/-! ===== the class's search for heaps: canEnd, fewest, leastRow ===== -/
/-- what the search knows of the line -/
def CV (I : zz_I) (n k w : Nat) (E : Nat → Nat → Bool) : Prop := I 10 6 = nI n ∧ I 10 7 = nI k ∧ I 10 8 = nI w ∧ ∀ x, x < n → ∀ b, b < 32 → bt (I 11 x) b = E x b
/-- what it holds of the heaps begun -/
def CF (I : zz_I) (n u : Nat) (E : Nat → Nat → Bool) (P : Nat → Bool) (g fr : Nat → Nat) : Prop := kr n P g u fr ∧ ∀ h, h < u → I 13 h = nI (fr h) ∧ ∀ x, x < n → (bt (I 14 h) x = true ↔ hp_f n E P g h x)
/-- the tries so far, and none of the sets kept is of a later one -/
def RTe (J : zz_J) (t : Nat) : Prop := J 10 5 = lN t ∧ ∀ s, s < 512 → ∃ u, u < 2 ^ 63 ∧ J 15 s = lN u ∧ u / 4294967296 ≤ t
theorem MO.rt {J : zz_J} {t : Nat} {D : Nat → Nat → Prop} (h : MO J t D) : RTe J t := ⟨h.1, fun s hs => by
  obtain ⟨u, a, b, c, -⟩ := h.2 s hs
  exact ⟨u, a, b, c⟩⟩
theorem RTe.mo {J : zz_J} {t : Nat} {D : Nat → Nat → Prop} (h : RTe J t) : MO (zz_uj J 10 5 (lN (t + 1))) (t + 1) D := ⟨by rw [zz_uj_at, pk_uLs], fun s hs => by
  obtain ⟨u, a, b, c⟩ := h.2 s hs
  exact ⟨u, a, by rw [zz_uj_ne _ _ _ (by decide)]; exact b, by omega, fun z => by omega⟩⟩
theorem CV_of {I I' : zz_I} {n k w : Nat} {E : Nat → Nat → Bool} (h10 : I' 10 = I 10) (h11 : I' 11 = I 11) (hV : CV I n k w E) : CV I' n k w E := by
  unfold CV
  rw [h10, h11]
  exact hV
theorem CF_of {I I' : zz_I} {n u : Nat} {E : Nat → Nat → Bool} {P : Nat → Bool} {g fr : Nat → Nat} (h13 : I' 13 = I 13) (h14 : ∀ h, h < u → I' 14 h = I 14 h) (hF : CF I n u E P g fr) : CF I' n u E P g fr := ⟨hF.1, fun h hh => by
  rw [h13, h14 h hh]
  exact hF.2 h hh⟩
theorem kf_succ {n u : Nat} {E : Nat → Nat → Bool} {P : Nat → Bool} {g fr : Nat → Nat} {x y : Nat} : kf n E P g (u + 1) fr x y ↔ kf n E P g u fr x y ∨ (x < n ∧ P x = false ∧ fr u = y ∧ hp_f n E P g u x) ∨ (y < n ∧ P y = false ∧ fr u = x ∧ hp_f n E P g u y) := by
  constructor
  · rintro (a | ⟨a1, a2, h, h1, h2, h3⟩ | ⟨a1, a2, h, h1, h2, h3⟩)
    · exact Or.inl (Or.inl a)
    · by_cases e : h = u
      · subst e; exact Or.inr (Or.inl ⟨a1, a2, h2, h3⟩)
      · exact Or.inl (Or.inr (Or.inl ⟨a1, a2, h, by omega, h2, h3⟩))
    · by_cases e : h = u
      · subst e; exact Or.inr (Or.inr ⟨a1, a2, h2, h3⟩)
      · exact Or.inl (Or.inr (Or.inr ⟨a1, a2, h, by omega, h2, h3⟩))
  · rintro ((a | ⟨a1, a2, h, h1, h2, h3⟩ | ⟨a1, a2, h, h1, h2, h3⟩) | ⟨a1, a2, a3, a4⟩ | ⟨a1, a2, a3, a4⟩)
    · exact Or.inl a
    · exact Or.inr (Or.inl ⟨a1, a2, h, by omega, h2, h3⟩)
    · exact Or.inr (Or.inr ⟨a1, a2, h, by omega, h2, h3⟩)
    · exact Or.inr (Or.inl ⟨a1, a2, u, by omega, a3, a4⟩)
    · exact Or.inr (Or.inr ⟨a1, a2, u, by omega, a3, a4⟩)
theorem bt_sh1 (x : Int32) {a b : Nat} (ha : a < 32) (hb : b < 32) {y : Nat} (hy : y < 32) : bt ((jv_ushr x (nI b) &&& 1) <<< (nI a &&& 31)) y = (decide (y = a) && bt x b) := by
  cases c : bt x b with
  | false =>
    rw [(ubit x hb).mpr c, b_shl a ha _ hy, b_0, Bool.and_false, Bool.and_false]
  | true =>
    have h1 : jv_ushr x (nI b) &&& 1 = 1 := (b_low1 _).mpr ((b_ushr b hb x 0).trans c)
    rw [h1, b_bit ha hy, Bool.and_true]
section PCanEnd
variable {M : zz_M} {I : zz_I} {J : zz_J} {Q : zz_Q} {n k w u t : Nat} {E : Nat → Nat → Bool} {P : Nat → Bool} {g fr : Nat → Nat}
theorem sp_canEnd (d : Nat) (hO : OK M) {left : Int32} (hn : n ≤ 24) (hk : k ≤ 24) (hw : w ≤ 24) (hE : wfE n E) (hb : hp_b n E w) (ht : t < 2 ^ 30) (hT : RTe J t) (hV : CV I n k w E) (hF : CF I n u E P g fr) (hW : hp_w n E u P g) (hu : u ≤ k) (hL : ∀ x, bt left x = true ↔ x < n ∧ P x = false) (hQ : ∀ (I' : zz_I) (J' : zz_J) (r : Int32), (∀ c, c ≠ 12 → I' c = I c) → (∀ c, c ≠ 10 → c ≠ 15 → J' c = J c) → RTe J' (t + 1) → bo r (hp_x n E k P g) → Q (some (.int r)) M I' J') : zz_D mX2_canEnd (d + 52) [.ref 10, .int left, .int (nI u)] M I J Q := by
  have hr := hF.1
  have hfl : ∀ h, h < u → bt left (fr h) = false := fun h hh => ts_nt (fun z => by
    have := ((hL _).mp z).2
    rw [(hr h hh).2.1] at this; cases this)
  refine zz_D_of rfl (Nat.le_of_ble_eq_true rfl) ?_
  try dsimp only [zz_s1, zz_s2, zz_kill, zz_ent, zz_fl, List.set_cons_zero, List.set_cons_succ, List.getElem?_cons_zero, List.getElem?_cons_succ, Option.toList_some, Option.toList_none, List.cons_append, List.nil_append, List.append_nil, List.length_cons, List.length_nil, List.replicate_succ, List.replicate_zero, Nat.reduceAdd, Nat.reduceSub]
  refine zz_iload_n rfl dX2_canEnd_0 ?_
  refine zz_istore_n dX2_canEnd_1 (by decide) ?_
  refine zz_iconst (v := 0) (by decide) dX2_canEnd_2 ?_
  refine zz_istore dX2_canEnd_3 (by decide) ?_
  try dsimp only [zz_s1, zz_s2, zz_kill, zz_ent, zz_fl, List.set_cons_zero, List.set_cons_succ, List.getElem?_cons_zero, List.getElem?_cons_succ, Option.toList_some, Option.toList_none, List.cons_append, List.nil_append, List.append_nil, List.length_cons, List.length_nil, List.replicate_succ, List.replicate_zero, Nat.reduceAdd, Nat.reduceSub]
  have l2 : ∀ (q h : Nat) (al : Int32) (Ix : zz_I) (z5 z6 z7 : Option Value), h + q = u → (∀ c, c ≠ 12 → Ix c = I c) → (∀ x, bt al x = true ↔ (bt left x = true ∨ ∃ h', h' < h ∧ fr h' = x)) → (∀ x, bt al x = true → ∀ y, y < 32 → (bt (Ix 12 x) y = true ↔ kf n E P g h fr x y)) → zz_G mX2_canEnd (d + 52) 0 39 [some (.ref 10), some (.int left), some (.int (nI u)), some (.int al), some (.int (nI h)), z5, z6, z7] [] M Ix J Q := by
    intro q
    induction q with
    | zero =>
      intro h al Ix z5 z6 z7 hh f1 f2 f3
      have e : h = u := by omega
      subst e
      have hA : ∀ x, bt al x = true ↔ (x < n ∧ P x = false) ∨ ∃ h', h' < h ∧ fr h' = x := fun x => by rw [f2, hL]
      have hlt : ∀ x, bt al x = true → x < n := fun x hx => by
        rcases (hA x).mp hx with z | ⟨h', z1, z2⟩
        · exact z.1
        · rw [← z2]; exact (hr h' z1).1
      have hC : CS Ix n w (bt al) (kf n E P g h fr) := ⟨hn, by rw [f1 10 (by decide)]; exact hV.1, by rw [f1 10 (by decide)]; exact hV.2.2.1, hw, hlt, fun x hx y hy => f3 x hx y (bt_lt hy), kf_sy hE, kf_ir hE hr, kf_b hE hr hlt hb⟩
      refine zz_iload rfl dX2_canEnd_39 ?_
      refine zz_iload_n rfl dX2_canEnd_41 ?_
      try dsimp only [zz_s1, zz_s2, zz_kill, zz_ent, zz_fl, List.set_cons_zero, List.set_cons_succ, List.getElem?_cons_zero, List.getElem?_cons_succ, Option.toList_some, Option.toList_none, List.cons_append, List.nil_append, List.append_nil, List.length_cons, List.length_nil, List.replicate_succ, List.replicate_zero, Nat.reduceAdd, Nat.reduceSub]
      refine zz_icmp_ge (tgt := 125) dX2_canEnd_42 (by decide) (fun q1 => ?_) (fun q1 => ?_)
      · refine zz_aload_n rfl dX2_canEnd_125 ?_
        refine zz_dup rfl dX2_canEnd_126 ?_
        refine zz_getl dX2_canEnd_127 fX2_28 rfl (os_10 hO) ?_
        refine zz_lconst (v := 1) (by decide) dX2_canEnd_130 ?_
        refine zz_ladd dX2_canEnd_131 ?_
        refine zz_putl dX2_canEnd_132 fX2_28 rfl (fun q h => by cases h; rfl) (os_10 hO) ?_
        refine zz_aload_n rfl dX2_canEnd_135 ?_
        refine zz_iload_n rfl dX2_canEnd_136 ?_
        refine zz_aload_n rfl dX2_canEnd_137 ?_
        refine zz_geti dX2_canEnd_138 fX2_36 rfl (os_10 hO) ?_
        refine zz_iconst (v := 0) (by decide) dX2_canEnd_141 ?_
        try dsimp only [zz_s1, zz_s2, zz_kill, zz_ent, zz_fl, List.set_cons_zero, List.set_cons_succ, List.getElem?_cons_zero, List.getElem?_cons_succ, Option.toList_some, Option.toList_none, List.cons_append, List.nil_append, List.append_nil, List.length_cons, List.length_nil, List.replicate_succ, List.replicate_zero, Nat.reduceAdd, Nat.reduceSub]
        rw [hT.1, lN_1, f1 10 (by decide), hV.2.1]
        refine zz_cV3 dX2_canEnd_142 lX2_60 rfl (os_10 hO) rfl rfl (Nat.le_of_ble_eq_true rfl) (Nat.le_of_ble_eq_true rfl) ?_
        have hcl : fb_ct (bt al) 32 ≤ 24 := ct24 (fun x hx => by have := hlt x hx; omega)
        refine (sp_gc hO hC (show t + 1 < 2 ^ 31 by omega) 24).1 d _ _ al k 0 hT.mo (fun _ hx => hx) hk hcl (by omega) (fun J' r j1 j2 j3 => ?_)
        try dsimp only [zz_s1, zz_s2, zz_kill, zz_ent, zz_fl, List.set_cons_zero, List.set_cons_succ, List.getElem?_cons_zero, List.getElem?_cons_succ, Option.toList_some, Option.toList_none, List.cons_append, List.nil_append, List.append_nil, List.length_cons, List.length_nil, List.replicate_succ, List.replicate_zero, Nat.reduceAdd, Nat.reduceSub]
        refine zz_ireturn dX2_canEnd_145 rfl j3.nar ?_
        refine hQ Ix J' r f1 (fun c c1 c2 => ?_) j2.rt (bo.iff j3 (kf_iff hE hA hr hu hW))
        rw [j1 c c2, zz_uj_ne _ _ _ c1]
      · exact absurd (nI_le (Nat.le_refl h) (by omega)) q1
    | succ q ih =>
      intro h al Ix z5 z6 z7 hh f1 f2 f3
      obtain ⟨r1, r2, r3⟩ := hr h (by omega)
      obtain ⟨e13, e14⟩ := hF.2 h (by omega)
      refine zz_iload rfl dX2_canEnd_39 ?_
      refine zz_iload_n rfl dX2_canEnd_41 ?_
      try dsimp only [zz_s1, zz_s2, zz_kill, zz_ent, zz_fl, List.set_cons_zero, List.set_cons_succ, List.getElem?_cons_zero, List.getElem?_cons_succ, Option.toList_some, Option.toList_none, List.cons_append, List.nil_append, List.append_nil, List.length_cons, List.length_nil, List.replicate_succ, List.replicate_zero, Nat.reduceAdd, Nat.reduceSub]
      refine zz_icmp_ge (tgt := 125) dX2_canEnd_42 (by decide) (fun q1 => ?_) (fun q1 => ?_)
      · exact absurd q1 (nI_ge (by omega) (by omega))
      refine zz_aload_n rfl dX2_canEnd_45 ?_
      refine zz_getr dX2_canEnd_46 fX2_18 (fun _ _ _ _ => rfl) (os_10 hO) (or_10_2 hO) ?_
      refine zz_iload rfl dX2_canEnd_49 ?_
      refine zz_iald dX2_canEnd_51 (os_13 hO) (vp_in_nI (show h < 24 by omega) (by decide)) ?_
      refine zz_istore dX2_canEnd_52 (by decide) ?_
      try dsimp only [zz_s1, zz_s2, zz_kill, zz_ent, zz_fl, List.set_cons_zero, List.set_cons_succ, List.getElem?_cons_zero, List.getElem?_cons_succ, Option.toList_some, Option.toList_none, List.cons_append, List.nil_append, List.append_nil, List.length_cons, List.length_nil, List.replicate_succ, List.replicate_zero, Nat.reduceAdd, Nat.reduceSub]
      rw [nI_clamp (show h < 2 ^ 31 by omega), f1 13 (by decide), e13]
      refine zz_aload_n rfl dX2_canEnd_54 ?_
      refine zz_getr dX2_canEnd_55 fX2_21 (fun _ _ _ _ => rfl) (os_10 hO) (or_10_3 hO) ?_
      refine zz_iload rfl dX2_canEnd_58 ?_
      refine zz_iald dX2_canEnd_60 (os_14 hO) (vp_in_nI (show h < 24 by omega) (by decide)) ?_
      refine zz_iload_n rfl dX2_canEnd_61 ?_
      refine zz_iand dX2_canEnd_62 ?_
      refine zz_istore dX2_canEnd_63 (by decide) ?_
      refine zz_iload_n rfl dX2_canEnd_65 ?_
      refine zz_iconst (v := 1) (by decide) dX2_canEnd_66 ?_
      refine zz_iload rfl dX2_canEnd_67 ?_
      refine zz_ishl dX2_canEnd_69 ?_
      refine zz_ior dX2_canEnd_70 ?_
      refine zz_istore_n dX2_canEnd_71 (by decide) ?_
      refine zz_aload_n rfl dX2_canEnd_72 ?_
      refine zz_getr dX2_canEnd_73 fX2_15 (fun _ _ _ _ => rfl) (os_10 hO) (or_10_1 hO) ?_
      refine zz_iload rfl dX2_canEnd_76 ?_
      refine zz_iload rfl dX2_canEnd_78 ?_
      refine zz_iast dX2_canEnd_80 (os_12 hO) (vp_in_nI (show fr h < 24 by omega) (by decide)) ?_
      refine zz_iconst (v := 0) (by decide) dX2_canEnd_81 ?_
      refine zz_istore dX2_canEnd_82 (by decide) ?_
      try dsimp only [zz_s1, zz_s2, zz_kill, zz_ent, zz_fl, List.set_cons_zero, List.set_cons_succ, List.getElem?_cons_zero, List.getElem?_cons_succ, Option.toList_some, Option.toList_none, List.cons_append, List.nil_append, List.append_nil, List.length_cons, List.length_nil, List.replicate_succ, List.replicate_zero, Nat.reduceAdd, Nat.reduceSub]
      rw [nI_clamp (show h < 2 ^ 31 by omega), nI_clamp (show fr h < 2 ^ 31 by omega), f1 14 (by decide)]
      have ho : ∀ x, bt (I 14 h &&& left) x = true ↔ (x < n ∧ P x = false) ∧ hp_f n E P g h x := fun x => by
        rw [b_and, Bool.and_eq_true, hL]
        exact ⟨fun z => ⟨z.2, (e14 x z.2.1).mp z.1⟩, fun z => ⟨(e14 x z.1.1).mpr z.2, z.1⟩⟩
      generalize I 14 h &&& left = oth at ho
      have hoa : bt oth (fr h) = false := ts_nt (fun z => by
        have := ((ho _).mp z).1.2
        rw [r2] at this; cases this)
      have l3 : ∀ (q2 b : Nat) (Iy : zz_I), b + q2 = n → (∀ c, c ≠ 12 → Iy c = I c) → (∀ x, x < n → Iy 12 x = if x < b then zz_ui Ix 12 (fr h) oth 12 x ||| ((jv_ushr oth (nI x) &&& 1) <<< (nI (fr h) &&& 31)) else zz_ui Ix 12 (fr h) oth 12 x) → zz_G mX2_canEnd (d + 52) 0 84 [some (.ref 10), some (.int left), some (.int (nI u)), some (.int (al ||| ((1 : Int32) <<< (nI (fr h) &&& 31)))), some (.int (nI h)), some (.int (nI (fr h))), some (.int oth), some (.int (nI b))] [] M Iy J Q := by
        intro q2
        induction q2 with
        | zero =>
          intro b Iy hb2 k1 k2
          have e : b = n := by omega
          subst e
          refine zz_iload rfl dX2_canEnd_84 ?_
          refine zz_aload_n rfl dX2_canEnd_86 ?_
          refine zz_geti dX2_canEnd_87 fX2_32 rfl (os_10 hO) ?_
          try dsimp only [zz_s1, zz_s2, zz_kill, zz_ent, zz_fl, List.set_cons_zero, List.set_cons_succ, List.getElem?_cons_zero, List.getElem?_cons_succ, Option.toList_some, Option.toList_none, List.cons_append, List.nil_append, List.append_nil, List.length_cons, List.length_nil, List.replicate_succ, List.replicate_zero, Nat.reduceAdd, Nat.reduceSub]
          rw [k1 10 (by decide), hV.1]
          refine zz_icmp_ge (tgt := 119) dX2_canEnd_90 (by decide) (fun q2 => ?_) (fun q2 => ?_)
          · refine zz_iinc dX2_canEnd_119 rfl (congrArg (HAdd.hAdd _) (show Int32.ofInt 1 = 1 by decide)) (by decide) ?_
            refine zz_goto (tgt := 39) dX2_canEnd_122 (by decide) ?_
            try dsimp only [zz_s1, zz_s2, zz_kill, zz_ent, zz_fl, List.set_cons_zero, List.set_cons_succ, List.getElem?_cons_zero, List.getElem?_cons_succ, Option.toList_some, Option.toList_none, List.cons_append, List.nil_append, List.append_nil, List.length_cons, List.length_nil, List.replicate_succ, List.replicate_zero, Nat.reduceAdd, Nat.reduceSub]
            rw [nI_1]
            have hal : ∀ x, bt (al ||| ((1 : Int32) <<< (nI (fr h) &&& 31))) x = true ↔ (bt al x = true ∨ x = fr h) := fun x => by rw [bt_on _ (by omega)]; exact hp_p_t
            have hlt : ∀ x, (bt al x = true ∨ x = fr h) → x < b := fun x hx => by
              rcases hx with z | z
              · rcases (f2 x).mp z with y | ⟨h', y1, y2⟩
                · exact ((hL x).mp y).1
                · rw [← y2]; exact (hr h' (by omega)).1
              · rw [z]; exact r1
            refine ih (h + 1) _ Iy _ _ _ (by omega) k1 (fun x => ?_) (fun x hx y hy => ?_)
            · rw [hal, f2]
              constructor
              · rintro ((z | ⟨h', z1, z2⟩) | z)
                · exact Or.inl z
                · exact Or.inr ⟨h', by omega, z2⟩
                · exact Or.inr ⟨h, by omega, z.symm⟩
              · rintro (z | ⟨h', z1, z2⟩)
                · exact Or.inl (Or.inl z)
                · by_cases e : h' = h
                  · exact Or.inr (by rw [← z2, e])
                  · exact Or.inl (Or.inr ⟨h', by omega, z2⟩)
            · have hx := (hal x).mp hx
              have hxn := hlt x hx
              rw [k2 x hxn, if_pos hxn, b_or, bt_sh1 oth (by omega) (by omega) hy, Bool.or_eq_true, Bool.and_eq_true, decide_eq_true_eq, kf_succ, zz_ui_at]
              by_cases ex : x = fr h
              · rw [ex, pk_us, ho, hoa]
                constructor
                · rintro (z | z)
                  · exact Or.inr (Or.inr ⟨z.1.1, z.1.2, rfl, z.2⟩)
                  · cases z.2
                · rintro ((⟨-, z, -⟩ | ⟨-, z, -⟩ | ⟨z1, z2, h', z3, z4, -⟩) | ⟨-, z, -⟩ | ⟨z1, z2, -, z3⟩)
                  · rw [r2] at z; cases z
                  · rw [r2] at z; cases z
                  · have := (hr h' (by omega)).2.2
                    rw [z4, r3] at this
                    omega
                  · rw [r2] at z; cases z
                  · exact Or.inl ⟨⟨z1, z2⟩, z3⟩
              · have hax := hx.resolve_right ex
                rw [pk_un ex, f3 x hax y hy, ho]
                constructor
                · rintro (z | z)
                  · exact Or.inl z
                  · exact Or.inr (Or.inl ⟨z.2.1.1, z.2.1.2, z.1.symm, z.2.2⟩)
                · rintro (z | ⟨z1, z2, z3, z4⟩ | ⟨z1, z2, z3, z4⟩)
                  · exact Or.inl z
                  · exact Or.inr ⟨z3.symm, ⟨z1, z2⟩, z4⟩
                  · exact absurd z3.symm ex
          · exact absurd (nI_le (Nat.le_refl b) (by omega)) q2
        | succ q2 ih2 =>
          intro b Iy hb2 k1 k2
          refine zz_iload rfl dX2_canEnd_84 ?_
          refine zz_aload_n rfl dX2_canEnd_86 ?_
          refine zz_geti dX2_canEnd_87 fX2_32 rfl (os_10 hO) ?_
          try dsimp only [zz_s1, zz_s2, zz_kill, zz_ent, zz_fl, List.set_cons_zero, List.set_cons_succ, List.getElem?_cons_zero, List.getElem?_cons_succ, Option.toList_some, Option.toList_none, List.cons_append, List.nil_append, List.append_nil, List.length_cons, List.length_nil, List.replicate_succ, List.replicate_zero, Nat.reduceAdd, Nat.reduceSub]
          rw [k1 10 (by decide), hV.1]
          refine zz_icmp_ge (tgt := 119) dX2_canEnd_90 (by decide) (fun q2 => ?_) (fun q2 => ?_)
          · exact absurd q2 (nI_ge (by omega) (by omega))
          refine zz_aload_n rfl dX2_canEnd_93 ?_
          refine zz_getr dX2_canEnd_94 fX2_15 (fun _ _ _ _ => rfl) (os_10 hO) (or_10_1 hO) ?_
          refine zz_iload rfl dX2_canEnd_97 ?_
          refine zz_dup2 rfl rfl dX2_canEnd_99 ?_
          refine zz_iald dX2_canEnd_100 (os_12 hO) (vp_in_nI (show b < 24 by omega) (by decide)) ?_
          refine zz_iload rfl dX2_canEnd_101 ?_
          refine zz_iload rfl dX2_canEnd_103 ?_
          refine zz_iushr dX2_canEnd_105 ?_
          refine zz_iconst (v := 1) (by decide) dX2_canEnd_106 ?_
          refine zz_iand dX2_canEnd_107 ?_
          refine zz_iload rfl dX2_canEnd_108 ?_
          refine zz_ishl dX2_canEnd_110 ?_
          refine zz_ior dX2_canEnd_111 ?_
          refine zz_iast dX2_canEnd_112 (os_12 hO) (vp_in_nI (show b < 24 by omega) (by decide)) ?_
          refine zz_iinc dX2_canEnd_113 rfl (congrArg (HAdd.hAdd _) (show Int32.ofInt 1 = 1 by decide)) (by decide) ?_
          refine zz_goto (tgt := 84) dX2_canEnd_116 (by decide) ?_
          try dsimp only [zz_s1, zz_s2, zz_kill, zz_ent, zz_fl, List.set_cons_zero, List.set_cons_succ, List.getElem?_cons_zero, List.getElem?_cons_succ, Option.toList_some, Option.toList_none, List.cons_append, List.nil_append, List.append_nil, List.length_cons, List.length_nil, List.replicate_succ, List.replicate_zero, Nat.reduceAdd, Nat.reduceSub]
          rw [nI_1, nI_clamp (show b < 2 ^ 31 by omega)]
          refine ih2 (b + 1) _ (by omega) (fun c hc => ?_) (fun x hx => ?_)
          · rw [zz_ui_ne _ _ _ hc]; exact k1 c hc
          · rw [show zz_ui Iy 12 b (Iy 12 b ||| ((jv_ushr oth (nI b) &&& 1) <<< (nI (fr h) &&& 31))) 12 x = upd (Iy 12) b (Iy 12 b ||| ((jv_ushr oth (nI b) &&& 1) <<< (nI (fr h) &&& 31))) x from by rw [zz_ui_at]]
            by_cases e : x = b
            · rw [e, pk_us, if_pos (by omega), k2 b (by omega), if_neg (by omega)]
            · rw [pk_un e, k2 x hx]
              by_cases c : x < b
              · rw [if_pos c, if_pos (by omega)]
              · rw [if_neg c, if_neg (by omega)]
      exact l3 n 0 _ (by omega) (fun c hc => by rw [zz_ui_ne _ _ _ hc]; exact f1 c hc) (fun x hx => by rw [if_neg (by omega)])
  have l1 : ∀ (q b : Nat) (Ix : zz_I), b + q = n → (∀ c, c ≠ 12 → Ix c = I c) → (∀ x, x < b → Ix 12 x = I 11 x &&& left) → zz_G mX2_canEnd (d + 52) 0 5 [some (.ref 10), some (.int left), some (.int (nI u)), some (.int left), some (.int (nI b)), none, none, none] [] M Ix J Q := by
    intro q
    induction q with
    | zero =>
      intro b Ix hb2 f1 f2
      have e : b = n := by omega
      subst e
      refine zz_iload rfl dX2_canEnd_5 ?_
      refine zz_aload_n rfl dX2_canEnd_7 ?_
      refine zz_geti dX2_canEnd_8 fX2_32 rfl (os_10 hO) ?_
      try dsimp only [zz_s1, zz_s2, zz_kill, zz_ent, zz_fl, List.set_cons_zero, List.set_cons_succ, List.getElem?_cons_zero, List.getElem?_cons_succ, Option.toList_some, Option.toList_none, List.cons_append, List.nil_append, List.append_nil, List.length_cons, List.length_nil, List.replicate_succ, List.replicate_zero, Nat.reduceAdd, Nat.reduceSub]
      rw [f1 10 (by decide), hV.1]
      refine zz_icmp_ge (tgt := 36) dX2_canEnd_11 (by decide) (fun q1 => ?_) (fun q1 => ?_)
      · refine zz_iconst (v := 0) (by decide) dX2_canEnd_36 ?_
        refine zz_istore dX2_canEnd_37 (by decide) ?_
        try dsimp only [zz_s1, zz_s2, zz_kill, zz_ent, zz_fl, List.set_cons_zero, List.set_cons_succ, List.getElem?_cons_zero, List.getElem?_cons_succ, Option.toList_some, Option.toList_none, List.cons_append, List.nil_append, List.append_nil, List.length_cons, List.length_nil, List.replicate_succ, List.replicate_zero, Nat.reduceAdd, Nat.reduceSub]
        refine l2 u 0 left Ix _ _ _ (by omega) f1 (fun x => ⟨Or.inl, fun z => z.resolve_right (fun y => by obtain ⟨h', y1, -⟩ := y; omega)⟩) (fun x hx y hy => ?_)
        have hxl := (hL x).mp hx
        rw [f2 x hxl.1, b_and, Bool.and_eq_true, hV.2.2.2 x hxl.1 y hy, hL]
        constructor
        · rintro ⟨z1, z2⟩
          exact Or.inl ⟨hxl.1, hxl.2, z2.1, z2.2, z1⟩
        · rintro (⟨-, -, z1, z2, z3⟩ | ⟨-, -, h', z, -⟩ | ⟨-, -, h', z, -⟩)
          · exact ⟨z3, z1, z2⟩
          · omega
          · omega
      · exact absurd (nI_le (Nat.le_refl b) (by omega)) q1
    | succ q ih =>
      intro b Ix hb2 f1 f2
      refine zz_iload rfl dX2_canEnd_5 ?_
      refine zz_aload_n rfl dX2_canEnd_7 ?_
      refine zz_geti dX2_canEnd_8 fX2_32 rfl (os_10 hO) ?_
      try dsimp only [zz_s1, zz_s2, zz_kill, zz_ent, zz_fl, List.set_cons_zero, List.set_cons_succ, List.getElem?_cons_zero, List.getElem?_cons_succ, Option.toList_some, Option.toList_none, List.cons_append, List.nil_append, List.append_nil, List.length_cons, List.length_nil, List.replicate_succ, List.replicate_zero, Nat.reduceAdd, Nat.reduceSub]
      rw [f1 10 (by decide), hV.1]
      refine zz_icmp_ge (tgt := 36) dX2_canEnd_11 (by decide) (fun q1 => ?_) (fun q1 => ?_)
      · exact absurd q1 (nI_ge (by omega) (by omega))
      refine zz_aload_n rfl dX2_canEnd_14 ?_
      refine zz_getr dX2_canEnd_15 fX2_15 (fun _ _ _ _ => rfl) (os_10 hO) (or_10_1 hO) ?_
      refine zz_iload rfl dX2_canEnd_18 ?_
      refine zz_aload_n rfl dX2_canEnd_20 ?_
      refine zz_getr dX2_canEnd_21 fX2_9 (fun _ _ _ _ => rfl) (os_10 hO) (or_10_0 hO) ?_
      refine zz_iload rfl dX2_canEnd_24 ?_
      refine zz_iald dX2_canEnd_26 (os_11 hO) (vp_in_nI (show b < 24 by omega) (by decide)) ?_
      refine zz_iload_n rfl dX2_canEnd_27 ?_
      refine zz_iand dX2_canEnd_28 ?_
      refine zz_iast dX2_canEnd_29 (os_12 hO) (vp_in_nI (show b < 24 by omega) (by decide)) ?_
      refine zz_iinc dX2_canEnd_30 rfl (congrArg (HAdd.hAdd _) (show Int32.ofInt 1 = 1 by decide)) (by decide) ?_
      refine zz_goto (tgt := 5) dX2_canEnd_33 (by decide) ?_
      try dsimp only [zz_s1, zz_s2, zz_kill, zz_ent, zz_fl, List.set_cons_zero, List.set_cons_succ, List.getElem?_cons_zero, List.getElem?_cons_succ, Option.toList_some, Option.toList_none, List.cons_append, List.nil_append, List.append_nil, List.length_cons, List.length_nil, List.replicate_succ, List.replicate_zero, Nat.reduceAdd, Nat.reduceSub]
      rw [nI_1, nI_clamp (show b < 2 ^ 31 by omega)]
      refine ih (b + 1) _ (by omega) (fun c hc => ?_) (fun x hx => ?_)
      · rw [zz_ui_ne _ _ _ hc]; exact f1 c hc
      · rw [zz_ui_at]
        by_cases e : x = b
        · rw [e, pk_us, f1 11 (by decide)]
        · rw [pk_un e]; exact f2 x (by omega)
  exact l1 n 0 I (by omega) (fun _ _ => rfl) (fun x hx => by omega)
theorem sp_fewest (d : Nat) (hO : OK M) {l A : Nat} {kd ag : Int32} {sg : Nat → Int32} {rw : Nat → Nat → Int32} (hl : l < 8) (hn : n ≤ 24) (hc : CL I l n kd ag E sg rw) (hE : wfE n E) (ha1 : 1 ≤ A) (ha : A ≤ n) (hw : w ≤ 24) (hb : hp_b n E w) (ht : t + 24 < 2 ^ 30) (hT : RTe J t) (hQ : ∀ (I' : zz_I) (J' : zz_J) (kk t' : Nat), (∀ c, c ≠ 10 → c ≠ 11 → c ≠ 12 → I' c = I c) → (∀ c, c ≠ 10 → c ≠ 15 → J' c = J c) → hp_N n E A kk → CV I' n kk w E → t' ≤ t + 24 → RTe J' t' → Q (some (.int (nI kk))) M I' J') : zz_D mX2_fewest (d + 53) [.ref 10, .ref (LN l), .int (nI A), .int (nI w)] M I J Q := by
  have hL8 : 26 < LN l := by unfold LN; omega
  refine zz_D_of rfl (Nat.le_of_ble_eq_true rfl) ?_
  try dsimp only [zz_s1, zz_s2, zz_kill, zz_ent, zz_fl, List.set_cons_zero, List.set_cons_succ, List.getElem?_cons_zero, List.getElem?_cons_succ, Option.toList_some, Option.toList_none, List.cons_append, List.nil_append, List.append_nil, List.length_cons, List.length_nil, List.replicate_succ, List.replicate_zero, Nat.reduceAdd, Nat.reduceSub]
  refine zz_aload_n rfl dX2_fewest_0 ?_
  refine zz_aload_n rfl dX2_fewest_1 ?_
  refine zz_geti dX2_fewest_2 fX2_42 rfl (ol_obj hO hl) ?_
  refine zz_puti dX2_fewest_5 fX2_32 rfl (fun q h => by cases h; rfl) (os_10 hO) ?_
  refine zz_aload_n rfl dX2_fewest_8 ?_
  refine zz_iload_n rfl dX2_fewest_9 ?_
  refine zz_puti dX2_fewest_10 fX2_39 rfl (fun q h => by cases h; rfl) (os_10 hO) ?_
  refine zz_iconst (v := 0) (by decide) dX2_fewest_13 ?_
  refine zz_istore dX2_fewest_14 (by decide) ?_
  try dsimp only [zz_s1, zz_s2, zz_kill, zz_ent, zz_fl, List.set_cons_zero, List.set_cons_succ, List.getElem?_cons_zero, List.getElem?_cons_succ, Option.toList_some, Option.toList_none, List.cons_append, List.nil_append, List.append_nil, List.length_cons, List.length_nil, List.replicate_succ, List.replicate_zero, Nat.reduceAdd, Nat.reduceSub]
  rw [hc.2.1]
  have lw : ∀ (q kk t' : Nat) (Ix : zz_I) (Jx : zz_J) (z4 : Option Value), kk + q = n → A ≤ kk → t' + q ≤ t + 24 → (∀ c, c ≠ 10 → c ≠ 11 → c ≠ 12 → Ix c = I c) → (∀ c, c ≠ 10 → c ≠ 15 → Jx c = J c) → RTe Jx t' → CV Ix n kk w E → (∀ k', A ≤ k' → k' < kk → ¬ ∃ f, hp_v n E k' f) → zz_G mX2_fewest (d + 53) 0 54 [some (.ref 10), some (.ref (LN l)), some (.int (nI A)), some (.int (nI w)), z4] [] M Ix Jx Q := by
    intro q
    induction q with
    | zero =>
      intro kk t' Ix Jx z4 hkk hA ht' f1 f0 fT f2 f3
      have e : kk = n := by omega
      subst e
      refine zz_aload_n rfl dX2_fewest_54 ?_
      refine zz_geti dX2_fewest_55 fX2_36 rfl (os_10 hO) ?_
      refine zz_aload_n rfl dX2_fewest_58 ?_
      refine zz_geti dX2_fewest_59 fX2_32 rfl (os_10 hO) ?_
      try dsimp only [zz_s1, zz_s2, zz_kill, zz_ent, zz_fl, List.set_cons_zero, List.set_cons_succ, List.getElem?_cons_zero, List.getElem?_cons_succ, Option.toList_some, Option.toList_none, List.cons_append, List.nil_append, List.append_nil, List.length_cons, List.length_nil, List.replicate_succ, List.replicate_zero, Nat.reduceAdd, Nat.reduceSub]
      rw [f2.1, f2.2.1]
      refine zz_icmp_ge (tgt := 94) dX2_fewest_62 (by decide) (fun q1 => ?_) (fun q1 => ?_)
      · refine zz_aload_n rfl dX2_fewest_94 ?_
        refine zz_geti dX2_fewest_95 fX2_36 rfl (os_10 hO) ?_
        refine zz_ireturn dX2_fewest_98 rfl (by first | rfl | decide | assumption) ?_
        rw [f2.2.1]
        exact hQ Ix Jx kk t' f1 f0 ⟨hA, hp_id, f3⟩ f2 (by omega) fT
      · exact absurd (nI_le (Nat.le_refl kk) (by omega)) q1
    | succ q ih =>
      intro kk t' Ix Jx z4 hkk hA ht' f1 f0 fT f2 f3
      refine zz_aload_n rfl dX2_fewest_54 ?_
      refine zz_geti dX2_fewest_55 fX2_36 rfl (os_10 hO) ?_
      refine zz_aload_n rfl dX2_fewest_58 ?_
      refine zz_geti dX2_fewest_59 fX2_32 rfl (os_10 hO) ?_
      try dsimp only [zz_s1, zz_s2, zz_kill, zz_ent, zz_fl, List.set_cons_zero, List.set_cons_succ, List.getElem?_cons_zero, List.getElem?_cons_succ, Option.toList_some, Option.toList_none, List.cons_append, List.nil_append, List.append_nil, List.length_cons, List.length_nil, List.replicate_succ, List.replicate_zero, Nat.reduceAdd, Nat.reduceSub]
      rw [f2.1, f2.2.1]
      refine zz_icmp_ge (tgt := 94) dX2_fewest_62 (by decide) (fun q1 => ?_) (fun q1 => ?_)
      · exact absurd q1 (nI_ge (by omega) (by omega))
      · skip
        refine zz_aload_n rfl dX2_fewest_65 ?_
        refine zz_iconst (v := 1) (by decide) dX2_fewest_66 ?_
        refine zz_aload_n rfl dX2_fewest_67 ?_
        refine zz_geti dX2_fewest_68 fX2_32 rfl (os_10 hO) ?_
        refine zz_ishl dX2_fewest_71 ?_
        refine zz_iconst (v := 1) (by decide) dX2_fewest_72 ?_
        refine zz_isub dX2_fewest_73 ?_
        refine zz_iconst (v := 0) (by decide) dX2_fewest_74 ?_
        try dsimp only [zz_s1, zz_s2, zz_kill, zz_ent, zz_fl, List.set_cons_zero, List.set_cons_succ, List.getElem?_cons_zero, List.getElem?_cons_succ, Option.toList_some, Option.toList_none, List.cons_append, List.nil_append, List.append_nil, List.length_cons, List.length_nil, List.replicate_succ, List.replicate_zero, Nat.reduceAdd, Nat.reduceSub]
        rw [f2.1]
        refine zz_cV2 dX2_fewest_75 lX2_52 rfl (os_10 hO) rfl rfl (Nat.le_of_ble_eq_true rfl) (Nat.le_of_ble_eq_true rfl) ?_
        have h0 : (∃ f, hp_v n E kk f) ↔ hp_x n E kk (fun _ => false) (fun _ => 0) := (hp_x0 (fun _ _ => rfl)).symm
        refine sp_canEnd d hO (u := 0) (P := fun _ => false) (g := fun _ => 0) (fr := fun _ => 0) hn (show kk ≤ 24 by omega) hw hE hb (show t' < 2 ^ 30 by omega) fT f2 ⟨fun h hh => by omega, fun h hh => by omega⟩ ⟨fun a _ z => (by cases z), fun a b _ _ z => (by cases z)⟩ (Nat.zero_le _) (fun x => ?_) (fun I' J' r k1 k2 k3 k4 => ?_)
        · rw [allI hn]; simp
        · have g1 : ∀ c, c ≠ 10 → c ≠ 11 → c ≠ 12 → I' c = I c := fun c c1 c2 c3 => (k1 c c3).trans (f1 c c1 c2 c3)
          have g0 : ∀ c, c ≠ 10 → c ≠ 15 → J' c = J c := fun c c1 c2 => (k2 c c1 c2).trans (f0 c c1 c2)
          have hV := CV_of (k1 10 (by decide)) (k1 11 (by decide)) f2
          try dsimp only [zz_s1, zz_s2, zz_kill, zz_ent, zz_fl, List.set_cons_zero, List.set_cons_succ, List.getElem?_cons_zero, List.getElem?_cons_succ, Option.toList_some, Option.toList_none, List.cons_append, List.nil_append, List.append_nil, List.length_cons, List.length_nil, List.replicate_succ, List.replicate_zero, Nat.reduceAdd, Nat.reduceSub]
          refine zz_if_ne (tgt := 94) dX2_fewest_78 (by decide) (fun q2 => ?_) (fun q2 => ?_)
          · refine zz_aload_n rfl dX2_fewest_94 ?_
            refine zz_geti dX2_fewest_95 fX2_36 rfl (os_10 hO) ?_
            refine zz_ireturn dX2_fewest_98 rfl (by first | rfl | decide | assumption) ?_
            rw [hV.2.1]
            exact hQ I' J' kk (t' + 1) g1 g0 ⟨hA, h0.mpr (k4.t q2), f3⟩ hV (by omega) k3
          · skip
            refine zz_aload_n rfl dX2_fewest_81 ?_
            refine zz_dup rfl dX2_fewest_82 ?_
            refine zz_geti dX2_fewest_83 fX2_36 rfl (os_10 hO) ?_
            refine zz_iconst (v := 1) (by decide) dX2_fewest_86 ?_
            refine zz_iadd dX2_fewest_87 ?_
            refine zz_puti dX2_fewest_88 fX2_36 rfl (fun q h => by cases h; rfl) (os_10 hO) ?_
            refine zz_goto (tgt := 54) dX2_fewest_91 (by decide) ?_
            try dsimp only [zz_s1, zz_s2, zz_kill, zz_ent, zz_fl, List.set_cons_zero, List.set_cons_succ, List.getElem?_cons_zero, List.getElem?_cons_succ, Option.toList_some, Option.toList_none, List.cons_append, List.nil_append, List.append_nil, List.length_cons, List.length_nil, List.replicate_succ, List.replicate_zero, Nat.reduceAdd, Nat.reduceSub]
            rw [hV.2.1, nI_1]
            refine ih (kk + 1) (t' + 1) _ J' _ (by omega) (by omega) (by omega) (fun c c1 c2 c3 => ?_) g0 k3 ⟨?_, ?_, ?_, ?_⟩ (fun k' h1 h2 => ?_)
            · rw [zz_ui_ne _ _ _ c1]; exact g1 c c1 c2 c3
            · rw [zz_ui_at, pk_un (by decide)]; exact hV.1
            · rw [zz_ui_at, pk_us]
            · rw [zz_ui_at, pk_un (by decide)]; exact hV.2.2.1
            · rw [zz_ui_ne _ _ _ (by decide)]; exact hV.2.2.2
            · by_cases e : k' = kk
              · rw [e, h0]; exact k4.f q2
              · exact f3 k' h1 (by omega)
  have l1 : ∀ (q a : Nat) (Ix : zz_I), a + q = n → (∀ c, c ≠ 10 → c ≠ 11 → Ix c = I c) → Ix 10 6 = nI n → Ix 10 8 = nI w → (∀ x, x < a → Ix 11 x = I (LN l + 1) x) → zz_G mX2_fewest (d + 53) 0 16 [some (.ref 10), some (.ref (LN l)), some (.int (nI A)), some (.int (nI w)), some (.int (nI a))] [] M Ix J Q := by
    intro q
    induction q with
    | zero =>
      intro a Ix haq f1 f2 f3 f4
      have e : a = n := by omega
      subst e
      refine zz_iload rfl dX2_fewest_16 ?_
      refine zz_aload_n rfl dX2_fewest_18 ?_
      refine zz_geti dX2_fewest_19 fX2_32 rfl (os_10 hO) ?_
      try dsimp only [zz_s1, zz_s2, zz_kill, zz_ent, zz_fl, List.set_cons_zero, List.set_cons_succ, List.getElem?_cons_zero, List.getElem?_cons_succ, Option.toList_some, Option.toList_none, List.cons_append, List.nil_append, List.append_nil, List.length_cons, List.length_nil, List.replicate_succ, List.replicate_zero, Nat.reduceAdd, Nat.reduceSub]
      rw [f2]
      refine zz_icmp_ge (tgt := 45) dX2_fewest_22 (by decide) (fun q1 => ?_) (fun q1 => ?_)
      · refine zz_aload_n rfl dX2_fewest_45 ?_
        refine zz_iconst (v := 1) (by decide) dX2_fewest_46 ?_
        refine zz_iload_n rfl dX2_fewest_47 ?_
        try dsimp only [zz_s1, zz_s2, zz_kill, zz_ent, zz_fl, List.set_cons_zero, List.set_cons_succ, List.getElem?_cons_zero, List.getElem?_cons_succ, Option.toList_some, Option.toList_none, List.cons_append, List.nil_append, List.append_nil, List.length_cons, List.length_nil, List.replicate_succ, List.replicate_zero, Nat.reduceAdd, Nat.reduceSub]
        refine zz_mmax dX2_fewest_48 lX2_46 (Nat.le_of_ble_eq_true rfl) ?_
        try dsimp only [zz_s1, zz_s2, zz_kill, zz_ent, zz_fl, List.set_cons_zero, List.set_cons_succ, List.getElem?_cons_zero, List.getElem?_cons_succ, Option.toList_some, Option.toList_none, List.cons_append, List.nil_append, List.append_nil, List.length_cons, List.length_nil, List.replicate_succ, List.replicate_zero, Nat.reduceAdd, Nat.reduceSub]
        rw [show (if (1 : Int32) < nI A then nI A else 1) = nI A from by
          have := nI_max 1 A (by decide) (by omega)
          rw [Nat.max_eq_right ha1] at this
          exact this]
        refine zz_puti dX2_fewest_51 fX2_36 rfl (fun q h => by cases h; rfl) (os_10 hO) ?_
        try dsimp only [zz_s1, zz_s2, zz_kill, zz_ent, zz_fl, List.set_cons_zero, List.set_cons_succ, List.getElem?_cons_zero, List.getElem?_cons_succ, Option.toList_some, Option.toList_none, List.cons_append, List.nil_append, List.append_nil, List.length_cons, List.length_nil, List.replicate_succ, List.replicate_zero, Nat.reduceAdd, Nat.reduceSub]
        refine lw (a - A) A t _ J _ (by omega) (Nat.le_refl _) (by omega) (fun c c1 c2 _ => ?_) (fun _ _ _ => rfl) hT ⟨?_, ?_, ?_, fun x hx b hb' => ?_⟩ (fun k' h1 h2 => by omega)
        · rw [zz_ui_ne _ _ _ c1]; exact f1 c c1 c2
        · rw [zz_ui_at, pk_un (by decide)]; exact f2
        · rw [zz_ui_at, pk_us]
        · rw [zz_ui_at, pk_un (by decide)]; exact f3
        · rw [zz_ui_ne _ _ _ (by decide), f4 x hx]
          exact hc.2.2.2.1 x (by omega) b hb'
      · exact absurd (nI_le (Nat.le_refl a) (by omega)) q1
    | succ q ih =>
      intro a Ix haq f1 f2 f3 f4
      refine zz_iload rfl dX2_fewest_16 ?_
      refine zz_aload_n rfl dX2_fewest_18 ?_
      refine zz_geti dX2_fewest_19 fX2_32 rfl (os_10 hO) ?_
      try dsimp only [zz_s1, zz_s2, zz_kill, zz_ent, zz_fl, List.set_cons_zero, List.set_cons_succ, List.getElem?_cons_zero, List.getElem?_cons_succ, Option.toList_some, Option.toList_none, List.cons_append, List.nil_append, List.append_nil, List.length_cons, List.length_nil, List.replicate_succ, List.replicate_zero, Nat.reduceAdd, Nat.reduceSub]
      rw [f2]
      refine zz_icmp_ge (tgt := 45) dX2_fewest_22 (by decide) (fun q1 => ?_) (fun q1 => ?_)
      · exact absurd q1 (nI_ge (by omega) (by omega))
      · skip
        refine zz_aload_n rfl dX2_fewest_25 ?_
        refine zz_getr dX2_fewest_26 fX2_9 (fun _ _ _ _ => rfl) (os_10 hO) (or_10_0 hO) ?_
        refine zz_iload rfl dX2_fewest_29 ?_
        refine zz_aload_n rfl dX2_fewest_31 ?_
        refine zz_getr dX2_fewest_32 fX2_45 (fun _ _ _ _ => rfl) (ol_obj hO hl) (olr_near hO hl) ?_
        refine zz_iload rfl dX2_fewest_35 ?_
        refine zz_iald dX2_fewest_37 (ol_near hO hl) (vp_in_nI (show a < 24 by omega) (by decide)) ?_
        refine zz_iast dX2_fewest_38 (os_11 hO) (vp_in_nI (show a < 24 by omega) (by decide)) ?_
        refine zz_iinc dX2_fewest_39 rfl (congrArg (HAdd.hAdd _) (show Int32.ofInt 1 = 1 by decide)) (by decide) ?_
        refine zz_goto (tgt := 16) dX2_fewest_42 (by decide) ?_
        try dsimp only [zz_s1, zz_s2, zz_kill, zz_ent, zz_fl, List.set_cons_zero, List.set_cons_succ, List.getElem?_cons_zero, List.getElem?_cons_succ, Option.toList_some, Option.toList_none, List.cons_append, List.nil_append, List.append_nil, List.length_cons, List.length_nil, List.replicate_succ, List.replicate_zero, Nat.reduceAdd, Nat.reduceSub]
        rw [nI_1, nI_clamp (show a < 2 ^ 31 by omega)]
        refine ih (a + 1) _ (by omega) (fun c c1 c2 => ?_) ?_ ?_ (fun x hx => ?_)
        · rw [zz_ui_ne _ _ _ c2]; exact f1 c c1 c2
        · rw [zz_ui_ne _ _ _ (by decide)]; exact f2
        · rw [zz_ui_ne _ _ _ (by decide)]; exact f3
        · rw [zz_ui_at]
          by_cases e : x = a
          · rw [e, pk_us, f1 (LN l + 1) (by omega) (by omega)]
          · rw [pk_un e]; exact f4 x (by omega)
  refine l1 n 0 _ (by omega) (fun c c1 c2 => ?_) ?_ ?_ (fun x hx => by omega)
  · rw [zz_ui_ne _ _ _ c1, zz_ui_ne _ _ _ c1]
  · rw [zz_ui_at, pk_un (by decide), zz_ui_at, pk_us]
  · rw [zz_ui_at, pk_us]
theorem sp_leastHeap (d : Nat) (hO : OK M) {a : Nat} {left : Int32} (hn : n ≤ 24) (hk : k ≤ 24) (hw : w ≤ 24) (hE : wfE n E) (hb : hp_b n E w) (ht : t + 24 < 2 ^ 30) (hT : RTe J t) (ha : a < n) (hV : CV I n k w E) (hF : CF I n u E (ltW a) g fr) (hW : hp_w n E u (ltW a) g) (hu : u ≤ k) (hL : ∀ x, bt left x = true ↔ x < n ∧ ltW (a + 1) x = false)
    (hQ : ∀ (I' : zz_I) (J' : zz_J) (t' ch : Nat), (∀ c, c ≠ 12 → c ≠ 14 → I' c = I c) → (∀ c, c ≠ 10 → c ≠ 15 → J' c = J c) → RTe J' t' → t' ≤ t + 24 → ch ≤ u → (∀ h', h' < ch → ¬ hp_x n E k (ltW (a + 1)) (hp_u g a h')) → (ch < u → hp_x n E k (ltW (a + 1)) (hp_u g a ch) ∧ CF I' n u E (ltW (a + 1)) (hp_u g a ch) fr) → (ch = u → ∀ h, h < u → I' 14 h = I 14 h) → Q (some (.int (nI ch))) M I' J') : zz_D mX2_leastHeap (d + 53) [.ref 10, .int (nI a), .int left, .int (nI u)] M I J Q := by
  have haf : ltW a a = false := ltW_f.mpr (Nat.lt_irrefl a)
  have sy : ∀ x y, E x y = true → E y x = true := fun x y z => (hE x y z).2.2.2
  have hne : ∀ h, h < u → fr h < a := fun h hh => ltW_t.mp (hF.1 h hh).2.1
  refine zz_D_of rfl (Nat.le_of_ble_eq_true rfl) ?_
  try dsimp only [zz_s1, zz_s2, zz_kill, zz_ent, zz_fl, List.set_cons_zero, List.set_cons_succ, List.getElem?_cons_zero, List.getElem?_cons_succ, Option.toList_some, Option.toList_none, List.cons_append, List.nil_append, List.append_nil, List.length_cons, List.length_nil, List.replicate_succ, List.replicate_zero, Nat.reduceAdd, Nat.reduceSub]
  refine zz_iconst (v := 0) (by decide) dX2_leastHeap_0 ?_
  refine zz_istore dX2_leastHeap_1 (by decide) ?_
  try dsimp only [zz_s1, zz_s2, zz_kill, zz_ent, zz_fl, List.set_cons_zero, List.set_cons_succ, List.getElem?_cons_zero, List.getElem?_cons_succ, Option.toList_some, Option.toList_none, List.cons_append, List.nil_append, List.append_nil, List.length_cons, List.length_nil, List.replicate_succ, List.replicate_zero, Nat.reduceAdd, Nat.reduceSub]
  have loop : ∀ (q h t' : Nat) (Ix : zz_I) (Jx : zz_J) (z5 : Option Value), h + q = u → (∀ c, c ≠ 12 → c ≠ 14 → Ix c = I c) → (∀ i, i < u → Ix 14 i = I 14 i) → (∀ c, c ≠ 10 → c ≠ 15 → Jx c = J c) → RTe Jx t' → t' ≤ t + h → (∀ h', h' < h → ¬ hp_x n E k (ltW (a + 1)) (hp_u g a h')) → zz_G mX2_leastHeap (d + 53) 0 3 [some (.ref 10), some (.int (nI a)), some (.int left), some (.int (nI u)), some (.int (nI h)), z5] [] M Ix Jx Q := by
    intro q
    induction q with
    | zero =>
      intro h t' Ix Jx z5 hh f1 f2 f3 f4 f5 f6
      have e : h = u := by omega
      subst e
      refine zz_iload rfl dX2_leastHeap_3 ?_
      refine zz_iload_n rfl dX2_leastHeap_5 ?_
      try dsimp only [zz_s1, zz_s2, zz_kill, zz_ent, zz_fl, List.set_cons_zero, List.set_cons_succ, List.getElem?_cons_zero, List.getElem?_cons_succ, Option.toList_some, Option.toList_none, List.cons_append, List.nil_append, List.append_nil, List.length_cons, List.length_nil, List.replicate_succ, List.replicate_zero, Nat.reduceAdd, Nat.reduceSub]
      refine zz_icmp_ge (tgt := 70) dX2_leastHeap_6 (by decide) (fun q1 => ?_) (fun q1 => ?_)
      · refine zz_iload_n rfl dX2_leastHeap_70 ?_
        refine zz_ireturn dX2_leastHeap_71 rfl (by first | rfl | decide | assumption) ?_
        exact hQ Ix Jx t' h f1 f3 f4 (by omega) (Nat.le_refl h) f6 (fun z => by omega) (fun _ => f2)
      · exact absurd (nI_le (Nat.le_refl h) (by omega)) q1
    | succ q ih =>
      intro h t' Ix Jx z5 hh f1 f2 f3 f4 f5 f6
      have eb := ubit (Ix 14 h) (show a < 32 by omega)
      have e14 := (hF.2 h (by omega)).2 a ha
      rw [← f2 h (by omega)] at e14
      refine zz_iload rfl dX2_leastHeap_3 ?_
      refine zz_iload_n rfl dX2_leastHeap_5 ?_
      try dsimp only [zz_s1, zz_s2, zz_kill, zz_ent, zz_fl, List.set_cons_zero, List.set_cons_succ, List.getElem?_cons_zero, List.getElem?_cons_succ, Option.toList_some, Option.toList_none, List.cons_append, List.nil_append, List.append_nil, List.length_cons, List.length_nil, List.replicate_succ, List.replicate_zero, Nat.reduceAdd, Nat.reduceSub]
      refine zz_icmp_ge (tgt := 70) dX2_leastHeap_6 (by decide) (fun q1 => ?_) (fun q1 => ?_)
      · exact absurd q1 (nI_ge (by omega) (by omega))
      refine zz_aload_n rfl dX2_leastHeap_9 ?_
      refine zz_getr dX2_leastHeap_10 fX2_21 (fun _ _ _ _ => rfl) (os_10 hO) (or_10_3 hO) ?_
      refine zz_iload rfl dX2_leastHeap_13 ?_
      refine zz_iald dX2_leastHeap_15 (os_14 hO) (vp_in_nI (show h < 24 by omega) (by decide)) ?_
      refine zz_istore dX2_leastHeap_16 (by decide) ?_
      refine zz_iload rfl dX2_leastHeap_18 ?_
      refine zz_iload_n rfl dX2_leastHeap_20 ?_
      refine zz_iushr dX2_leastHeap_21 ?_
      refine zz_iconst (v := 1) (by decide) dX2_leastHeap_22 ?_
      refine zz_iand dX2_leastHeap_23 ?_
      try dsimp only [zz_s1, zz_s2, zz_kill, zz_ent, zz_fl, List.set_cons_zero, List.set_cons_succ, List.getElem?_cons_zero, List.getElem?_cons_succ, Option.toList_some, Option.toList_none, List.cons_append, List.nil_append, List.append_nil, List.length_cons, List.length_nil, List.replicate_succ, List.replicate_zero, Nat.reduceAdd, Nat.reduceSub]
      rw [nI_clamp (show h < 2 ^ 31 by omega)]
      refine zz_if_eq (tgt := 64) dX2_leastHeap_24 (by decide) (fun q2 => ?_) (fun q2 => ?_)
      · have hnf : ¬ hp_f n E (ltW a) g h a := fun z => by have := e14.mpr z; rw [eb.mp q2] at this; cases this
        refine zz_iinc dX2_leastHeap_64 rfl (congrArg (HAdd.hAdd _) (show Int32.ofInt 1 = 1 by decide)) (by decide) ?_
        refine zz_goto (tgt := 3) dX2_leastHeap_67 (by decide) ?_
        try dsimp only [zz_s1, zz_s2, zz_kill, zz_ent, zz_fl, List.set_cons_zero, List.set_cons_succ, List.getElem?_cons_zero, List.getElem?_cons_succ, Option.toList_some, Option.toList_none, List.cons_append, List.nil_append, List.append_nil, List.length_cons, List.length_nil, List.replicate_succ, List.replicate_zero, Nat.reduceAdd, Nat.reduceSub]
        rw [nI_1]
        refine ih (h + 1) t' Ix Jx _ (by omega) f1 f2 f3 f4 (by omega) (fun h' hh' => ?_)
        by_cases e : h' = h
        · rw [e, ← hp_p_lt]; exact hp_nf ha haf hnf
        · exact f6 h' (by omega)
      have hff : hp_f n E (ltW a) g h a := e14.mp (ubit_t _ (by omega) q2)
      refine zz_aload_n rfl dX2_leastHeap_27 ?_
      refine zz_getr dX2_leastHeap_28 fX2_21 (fun _ _ _ _ => rfl) (os_10 hO) (or_10_3 hO) ?_
      refine zz_iload rfl dX2_leastHeap_31 ?_
      refine zz_iload rfl dX2_leastHeap_33 ?_
      refine zz_aload_n rfl dX2_leastHeap_35 ?_
      refine zz_getr dX2_leastHeap_36 fX2_9 (fun _ _ _ _ => rfl) (os_10 hO) (or_10_0 hO) ?_
      refine zz_iload_n rfl dX2_leastHeap_39 ?_
      refine zz_iald dX2_leastHeap_40 (os_11 hO) (vp_in_nI (show a < 24 by omega) (by decide)) ?_
      refine zz_iand dX2_leastHeap_41 ?_
      refine zz_iast dX2_leastHeap_42 (os_14 hO) (vp_in_nI (show h < 24 by omega) (by decide)) ?_
      refine zz_aload_n rfl dX2_leastHeap_43 ?_
      refine zz_iload_n rfl dX2_leastHeap_44 ?_
      refine zz_iload_n rfl dX2_leastHeap_45 ?_
      try dsimp only [zz_s1, zz_s2, zz_kill, zz_ent, zz_fl, List.set_cons_zero, List.set_cons_succ, List.getElem?_cons_zero, List.getElem?_cons_succ, Option.toList_some, Option.toList_none, List.cons_append, List.nil_append, List.append_nil, List.length_cons, List.length_nil, List.replicate_succ, List.replicate_zero, Nat.reduceAdd, Nat.reduceSub]
      rw [nI_clamp (show a < 2 ^ 31 by omega), nI_clamp (show h < 2 ^ 31 by omega)]
      have k1 : ∀ c, c ≠ 12 → c ≠ 14 → zz_ui Ix 14 h (Ix 14 h &&& Ix 11 a) c = I c := fun c c1 c2 => by rw [zz_ui_ne _ _ _ c2]; exact f1 c c1 c2
      have hVy : CV (zz_ui Ix 14 h (Ix 14 h &&& Ix 11 a)) n k w E := CV_of (k1 10 (by decide) (by decide)) (k1 11 (by decide) (by decide)) hV
      have hFy : CF (zz_ui Ix 14 h (Ix 14 h &&& Ix 11 a)) n u E (ltW (a + 1)) (hp_u g a h) fr := by
        refine ⟨fun i hi => ?_, fun i hi => ⟨?_, fun x hx => ?_⟩⟩
        · obtain ⟨z1, z2, z3⟩ := hF.1 i hi
          have := hne i hi
          exact ⟨z1, ltW_t.mpr (by omega), by rw [hp_u_n _ (by omega)]; exact z3⟩
        · rw [k1 13 (by decide) (by decide)]; exact (hF.2 i hi).1
        · rw [zz_ui_at, ← hp_p_lt, hp_f_add ha haf]
          by_cases e : i = h
          · rw [e, pk_us, b_and, Bool.and_eq_true, f2 h (by omega), (hF.2 h (by omega)).2 x hx, f1 11 (by decide) (by decide), hV.2.2.2 a ha x (by omega)]
            exact ⟨fun z => ⟨z.1, fun _ => z.2⟩, fun z => ⟨z.1, z.2 rfl⟩⟩
          · rw [pk_un e, f2 i hi, (hF.2 i hi).2 x hx]
            exact ⟨fun z => ⟨z, fun y => absurd y e⟩, fun z => z.1⟩
      have hWy : hp_w n E u (ltW (a + 1)) (hp_u g a h) := by
        rw [← hp_p_lt]
        exact hp_w_add sy hW (show h < u by omega) (Nat.le_refl u) hff
      refine zz_cV2 dX2_leastHeap_46 lX2_52 rfl (os_10 hO) rfl rfl (Nat.le_of_ble_eq_true rfl) (Nat.le_of_ble_eq_true rfl) ?_
      refine sp_canEnd d hO hn hk hw hE hb (show t' < 2 ^ 30 by omega) f4 hVy hFy hWy hu hL (fun I' J' r j1 j2 j3 j4 => ?_)
      have g0 : ∀ c, c ≠ 10 → c ≠ 15 → J' c = J c := fun c c1 c2 => (j2 c c1 c2).trans (f3 c c1 c2)
      try dsimp only [zz_s1, zz_s2, zz_kill, zz_ent, zz_fl, List.set_cons_zero, List.set_cons_succ, List.getElem?_cons_zero, List.getElem?_cons_succ, Option.toList_some, Option.toList_none, List.cons_append, List.nil_append, List.append_nil, List.length_cons, List.length_nil, List.replicate_succ, List.replicate_zero, Nat.reduceAdd, Nat.reduceSub]
      refine zz_if_eq (tgt := 55) dX2_leastHeap_49 (by decide) (fun q3 => ?_) (fun q3 => ?_)
      · refine zz_aload_n rfl dX2_leastHeap_55 ?_
        refine zz_getr dX2_leastHeap_56 fX2_21 (fun _ _ _ _ => rfl) (os_10 hO) (or_10_3 hO) ?_
        refine zz_iload rfl dX2_leastHeap_59 ?_
        refine zz_iload rfl dX2_leastHeap_61 ?_
        refine zz_iast dX2_leastHeap_63 (os_14 hO) (vp_in_nI (show h < 24 by omega) (by decide)) ?_
        refine zz_iinc dX2_leastHeap_64 rfl (congrArg (HAdd.hAdd _) (show Int32.ofInt 1 = 1 by decide)) (by decide) ?_
        refine zz_goto (tgt := 3) dX2_leastHeap_67 (by decide) ?_
        try dsimp only [zz_s1, zz_s2, zz_kill, zz_ent, zz_fl, List.set_cons_zero, List.set_cons_succ, List.getElem?_cons_zero, List.getElem?_cons_succ, Option.toList_some, Option.toList_none, List.cons_append, List.nil_append, List.append_nil, List.length_cons, List.length_nil, List.replicate_succ, List.replicate_zero, Nat.reduceAdd, Nat.reduceSub]
        rw [nI_1, nI_clamp (show h < 2 ^ 31 by omega)]
        refine ih (h + 1) (t' + 1) _ J' _ (by omega) (fun c c1 c2 => ?_) (fun i hi => ?_) g0 j3 (by omega) (fun h' hh' => ?_)
        · rw [zz_ui_ne _ _ _ c2, j1 c c1]; exact k1 c c1 c2
        · rw [zz_ui_at]
          by_cases e : i = h
          · rw [e, pk_us]; exact f2 h (by omega)
          · rw [pk_un e, j1 14 (by decide), zz_ui_at, pk_un e]; exact f2 i hi
        · by_cases e : h' = h
          · rw [e]; exact j4.f q3
          · exact f6 h' (by omega)
      · skip
        refine zz_iload rfl dX2_leastHeap_52 ?_
        refine zz_ireturn dX2_leastHeap_54 rfl (by first | rfl | decide | assumption) ?_
        exact hQ I' J' (t' + 1) h (fun c c1 c2 => (j1 c c1).trans (k1 c c1 c2)) g0 j3 (by omega) (by omega) f6 (fun _ => ⟨j4.t q3, CF_of (j1 13 (by decide)) (fun i _ => by rw [j1 14 (by decide)]) hFy⟩) (fun z => by omega)
  exact loop u 0 t I J _ (by omega) (fun _ _ _ => rfl) (fun _ _ => rfl) (fun _ _ _ => rfl) hT (by omega) (fun h' hh' => by omega)
theorem sp_leastRow (d : Nat) (hO : OK M) (hn : n ≤ 24) (hk : k ≤ 24) (hw : w ≤ 24) (hE : wfE n E) (hb : hp_b n E w) (ht : t + 576 < 2 ^ 30) (hT : RTe J t) (hV : CV I n k w E) (hx : ∃ f, hp_v n E k f) (hQ : ∀ (I' : zz_I) (J' : zz_J) (t' : Nat) (r : Nat → Nat), (∀ c, c ≠ 12 → c ≠ 13 → c ≠ 14 → c ≠ 26 → I' c = I c) → (∀ c, c ≠ 10 → c ≠ 15 → J' c = J c) → RTe J' t' → t' ≤ t + 576 → hp_L n E k r → (∀ a, a < n → I' 26 a = nI (r a)) → Q none M I' J') : zz_D mX2_leastRow (d + 54) [.ref 10, .ref 26] M I J Q := by
  have sy : ∀ x y, E x y = true → E y x = true := fun x y z => (hE x y z).2.2.2
  refine zz_D_of rfl (Nat.le_of_ble_eq_true rfl) ?_
  try dsimp only [zz_s1, zz_s2, zz_kill, zz_ent, zz_fl, List.set_cons_zero, List.set_cons_succ, List.getElem?_cons_zero, List.getElem?_cons_succ, Option.toList_some, Option.toList_none, List.cons_append, List.nil_append, List.append_nil, List.length_cons, List.length_nil, List.replicate_succ, List.replicate_zero, Nat.reduceAdd, Nat.reduceSub]
  refine zz_iconst (v := 1) (by decide) dX2_leastRow_0 ?_
  refine zz_aload_n rfl dX2_leastRow_1 ?_
  refine zz_geti dX2_leastRow_2 fX2_32 rfl (os_10 hO) ?_
  refine zz_ishl dX2_leastRow_5 ?_
  refine zz_iconst (v := 1) (by decide) dX2_leastRow_6 ?_
  refine zz_isub dX2_leastRow_7 ?_
  refine zz_istore_n dX2_leastRow_8 (by decide) ?_
  refine zz_iconst (v := 0) (by decide) dX2_leastRow_9 ?_
  refine zz_istore_n dX2_leastRow_10 (by decide) ?_
  refine zz_iconst (v := 0) (by decide) dX2_leastRow_11 ?_
  refine zz_istore dX2_leastRow_12 (by decide) ?_
  try dsimp only [zz_s1, zz_s2, zz_kill, zz_ent, zz_fl, List.set_cons_zero, List.set_cons_succ, List.getElem?_cons_zero, List.getElem?_cons_succ, Option.toList_some, Option.toList_none, List.cons_append, List.nil_append, List.append_nil, List.length_cons, List.length_nil, List.replicate_succ, List.replicate_zero, Nat.reduceAdd, Nat.reduceSub]
  rw [hV.1]
  have outer : ∀ (q a u t' : Nat) (left : Int32) (Ix : zz_I) (Jx : zz_J) (g fr : Nat → Nat) (z5 : Option Value), a + q = n → (∀ x, bt left x = true ↔ x < n ∧ ltW a x = false) → (∀ c, c ≠ 12 → c ≠ 13 → c ≠ 14 → c ≠ 26 → Ix c = I c) → (∀ c, c ≠ 10 → c ≠ 15 → Jx c = J c) → RTe Jx t' → t' ≤ t + 24 * a → (∀ b, b < a → Ix 26 b = nI (g b)) → CF Ix n u E (ltW a) g fr → hp_w n E u (ltW a) g → u ≤ a → u ≤ k → hp_x n E k (ltW a) g → (∀ f, hp_v n E k f → ∀ c, c < a → (∀ b, b < c → f b = g b) → g c ≤ f c) → zz_G mX2_leastRow (d + 54) 0 14 [some (.ref 10), some (.ref 26), some (.int left), some (.int (nI u)), some (.int (nI a)), z5] [] M Ix Jx Q := by
    intro q
    induction q with
    | zero =>
      intro a u t' left Ix Jx g fr z5 ha hL f1 f0 fT ft f2 hF hW hua huk hxx hmin
      have e : a = n := by omega
      subst e
      refine zz_iload rfl dX2_leastRow_14 ?_
      refine zz_aload_n rfl dX2_leastRow_16 ?_
      refine zz_geti dX2_leastRow_17 fX2_32 rfl (os_10 hO) ?_
      try dsimp only [zz_s1, zz_s2, zz_kill, zz_ent, zz_fl, List.set_cons_zero, List.set_cons_succ, List.getElem?_cons_zero, List.getElem?_cons_succ, Option.toList_some, Option.toList_none, List.cons_append, List.nil_append, List.append_nil, List.length_cons, List.length_nil, List.replicate_succ, List.replicate_zero, Nat.reduceAdd, Nat.reduceSub]
      rw [f1 10 (by decide) (by decide) (by decide) (by decide), hV.1]
      refine zz_icmp_ge (tgt := 86) dX2_leastRow_20 (by decide) (fun q1 => ?_) (fun q1 => ?_)
      · refine zz_return dX2_leastRow_86 rfl ?_
        refine hQ Ix Jx t' g f1 f0 fT (by omega) ⟨⟨fun x hx => ?_, fun x y hx hy hne e => ?_⟩, hmin⟩ f2
        · have := hW.1 x hx (ltW_t.mpr hx); omega
        · exact hW.2 x y hx hy (ltW_t.mpr hx) (ltW_t.mpr hy) hne e
      · exact absurd (nI_le (Nat.le_refl a) (by omega)) q1
    | succ q ih =>
      intro a u t' left Ix Jx g fr z5 ha hL f1 f0 fT ft f2 hF hW hua huk hxx hmin
      have haf : ltW a a = false := ltW_f.mpr (Nat.lt_irrefl a)
      have han : a < n := by omega
      have hVx : CV Ix n k w E := CV_of (f1 10 (by decide) (by decide) (by decide) (by decide)) (f1 11 (by decide) (by decide) (by decide) (by decide)) hV
      refine zz_iload rfl dX2_leastRow_14 ?_
      refine zz_aload_n rfl dX2_leastRow_16 ?_
      refine zz_geti dX2_leastRow_17 fX2_32 rfl (os_10 hO) ?_
      try dsimp only [zz_s1, zz_s2, zz_kill, zz_ent, zz_fl, List.set_cons_zero, List.set_cons_succ, List.getElem?_cons_zero, List.getElem?_cons_succ, Option.toList_some, Option.toList_none, List.cons_append, List.nil_append, List.append_nil, List.length_cons, List.length_nil, List.replicate_succ, List.replicate_zero, Nat.reduceAdd, Nat.reduceSub]
      rw [hVx.1]
      refine zz_icmp_ge (tgt := 86) dX2_leastRow_20 (by decide) (fun q1 => ?_) (fun q1 => ?_)
      · exact absurd q1 (nI_ge (by omega) (by omega))
      refine zz_iload_n rfl dX2_leastRow_23 ?_
      refine zz_iconst (v := 1) (by decide) dX2_leastRow_24 ?_
      refine zz_iload rfl dX2_leastRow_25 ?_
      refine zz_ishl dX2_leastRow_27 ?_
      refine zz_iconst (v := (-1)) (by decide) dX2_leastRow_28 ?_
      refine zz_ixor dX2_leastRow_29 ?_
      refine zz_iand dX2_leastRow_30 ?_
      refine zz_istore_n dX2_leastRow_31 (by decide) ?_
      refine zz_aload_n rfl dX2_leastRow_32 ?_
      refine zz_iload rfl dX2_leastRow_33 ?_
      refine zz_iload_n rfl dX2_leastRow_35 ?_
      refine zz_iload_n rfl dX2_leastRow_36 ?_
      try dsimp only [zz_s1, zz_s2, zz_kill, zz_ent, zz_fl, List.set_cons_zero, List.set_cons_succ, List.getElem?_cons_zero, List.getElem?_cons_succ, Option.toList_some, Option.toList_none, List.cons_append, List.nil_append, List.append_nil, List.length_cons, List.length_nil, List.replicate_succ, List.replicate_zero, Nat.reduceAdd, Nat.reduceSub]
      generalize hrest : left &&& (((1 : Int32) <<< (nI a &&& 31)) ^^^ (-1)) = rest
      have hrL : ∀ x, bt rest x = true ↔ x < n ∧ ltW (a + 1) x = false := fun x => by
        rw [← hrest, bt_off left (by omega) x, rm_t, hL, ltW_f, ltW_f]
        omega
      refine zz_cV3 dX2_leastRow_37 lX2_56 rfl (os_10 hO) rfl rfl (Nat.le_of_ble_eq_true rfl) (Nat.le_of_ble_eq_true rfl) ?_
      refine sp_leastHeap d hO hn hk hw hE hb (show t' + 24 < 2 ^ 30 by omega) fT han hVx hF hW huk hrL (fun Iy Jy t2 ch b1 b2 b3 b4 b5 b6 b7 b8 => ?_)
      have k1 : ∀ c, c ≠ 12 → c ≠ 13 → c ≠ 14 → c ≠ 26 → Iy c = I c := fun c c1 c2 c3 c4 => (b1 c c1 c3).trans (f1 c c1 c2 c3 c4)
      have k0 : ∀ c, c ≠ 10 → c ≠ 15 → Jy c = J c := fun c c1 c2 => (b2 c c1 c2).trans (f0 c c1 c2)
      have k2 : Iy 26 = Ix 26 := b1 26 (by decide) (by decide)
      try dsimp only [zz_s1, zz_s2, zz_kill, zz_ent, zz_fl, List.set_cons_zero, List.set_cons_succ, List.getElem?_cons_zero, List.getElem?_cons_succ, Option.toList_some, Option.toList_none, List.cons_append, List.nil_append, List.append_nil, List.length_cons, List.length_nil, List.replicate_succ, List.replicate_zero, Nat.reduceAdd, Nat.reduceSub]
      refine zz_istore dX2_leastRow_40 (by decide) ?_
      refine zz_iload rfl dX2_leastRow_42 ?_
      refine zz_iload_n rfl dX2_leastRow_44 ?_
      try dsimp only [zz_s1, zz_s2, zz_kill, zz_ent, zz_fl, List.set_cons_zero, List.set_cons_succ, List.getElem?_cons_zero, List.getElem?_cons_succ, Option.toList_some, Option.toList_none, List.cons_append, List.nil_append, List.append_nil, List.length_cons, List.length_nil, List.replicate_succ, List.replicate_zero, Nat.reduceAdd, Nat.reduceSub]
      have fin : ∀ (u2 : Nat) (Iz : zz_I) (fr2 : Nat → Nat), (∀ c, c ≠ 12 → c ≠ 13 → c ≠ 14 → c ≠ 26 → Iz c = I c) → Iz 26 = Ix 26 → CF Iz n u2 E (ltW (a + 1)) (hp_u g a ch) fr2 → ch < u2 → u ≤ u2 → u2 ≤ a + 1 → u2 ≤ k → hp_x n E k (ltW (a + 1)) (hp_u g a ch) → zz_G mX2_leastRow (d + 54) 0 74 [some (.ref 10), some (.ref 26), some (.int rest), some (.int (nI u2)), some (.int (nI a)), some (.int (nI ch))] [] M Iz Jy Q := by
        intro u2 Iz fr2 m1 m2 m3 m4 m5 m6 m7 m8
        refine zz_aload_n rfl dX2_leastRow_74 ?_
        refine zz_iload rfl dX2_leastRow_75 ?_
        refine zz_iload rfl dX2_leastRow_77 ?_
        refine zz_iast dX2_leastRow_79 (os_26 hO) (vp_in_nI (show a < 24 by omega) (by decide)) ?_
        refine zz_iinc dX2_leastRow_80 rfl (congrArg (HAdd.hAdd _) (show Int32.ofInt 1 = 1 by decide)) (by decide) ?_
        refine zz_goto (tgt := 14) dX2_leastRow_83 (by decide) ?_
        try dsimp only [zz_s1, zz_s2, zz_kill, zz_ent, zz_fl, List.set_cons_zero, List.set_cons_succ, List.getElem?_cons_zero, List.getElem?_cons_succ, Option.toList_some, Option.toList_none, List.cons_append, List.nil_append, List.append_nil, List.length_cons, List.length_nil, List.replicate_succ, List.replicate_zero, Nat.reduceAdd, Nat.reduceSub]
        rw [nI_1, nI_clamp (show a < 2 ^ 31 by omega)]
        have hfit : hp_f n E (ltW a) g ch a := Classical.byContradiction fun z => hp_nf han haf z (by rw [hp_p_lt]; exact m8)
        have hW2 := hp_w_add (h := ch) (u' := u2) sy hW m4 m5 hfit
        rw [hp_p_lt] at hW2
        refine ih (a + 1) u2 t2 rest _ Jy (hp_u g a ch) fr2 _ (by omega) hrL (fun c c1 c2 c3 c4 => ?_) k0 b3 (by omega) (fun b hb' => ?_) (CF_of (zz_ui_ne _ _ _ (by decide)) (fun i _ => by rw [zz_ui_ne _ _ _ (by decide)]) m3) hW2 m6 m7 m8 (fun f hf c hc hag => ?_)
        · rw [zz_ui_ne _ _ _ c4]; exact m1 c c1 c2 c3 c4
        · rw [zz_ui_at]
          by_cases e : b = a
          · rw [e, pk_us, hp_u_s]
          · rw [pk_un e, hp_u_n _ e, m2]; exact f2 b (by omega)
        · have hag2 : ∀ b, b < c → f b = g b := fun b hb' => by rw [hag b hb', hp_u_n _ (by omega)]
          by_cases e : c = a
          · rw [e, hp_u_s]
            refine Nat.le_of_not_lt fun z => b6 (f a) z ?_
            rw [← hp_p_lt]
            exact hp_up hf (fun x _ px => hag2 x (by rw [e]; exact ltW_t.mp px))
          · rw [hp_u_n _ e]
            exact hmin f hf c (by omega) hag2
      refine zz_icmp_ne (tgt := 74) dX2_leastRow_45 (by decide) (fun q2 => ?_) (fun q2 => ?_)
      · have hlt : ch < u := Nat.lt_of_le_of_ne b5 (fun z => q2 (by rw [z]))
        obtain ⟨y1, y2⟩ := b7 hlt
        exact fin u Iy fr k1 k2 y2 hlt (Nat.le_refl u) (by omega) huk y1
      have hce : ch = u := (nI_eq (by omega) (by omega)).mp q2
      subst hce
      have hxu : ch < k ∧ hp_x n E k (ltW (a + 1)) (hp_u g a ch) := by
        rcases hp_br han haf hW.1 hxx with ⟨h', y1, y2, y3, y4⟩ | y
        · exact absurd (by rw [← hp_p_lt]; exact y4) (b6 h' y1)
        · exact ⟨y.1, by rw [← hp_p_lt]; exact y.2⟩
      refine zz_aload_n rfl dX2_leastRow_48 ?_
      refine zz_getr dX2_leastRow_49 fX2_18 (fun _ _ _ _ => rfl) (os_10 hO) (or_10_2 hO) ?_
      refine zz_iload rfl dX2_leastRow_52 ?_
      refine zz_iload rfl dX2_leastRow_54 ?_
      refine zz_iast dX2_leastRow_56 (os_13 hO) (vp_in_nI (show ch < 24 by omega) (by decide)) ?_
      refine zz_aload_n rfl dX2_leastRow_57 ?_
      refine zz_getr dX2_leastRow_58 fX2_21 (fun _ _ _ _ => rfl) (os_10 hO) (or_10_3 hO) ?_
      refine zz_iload rfl dX2_leastRow_61 ?_
      refine zz_aload_n rfl dX2_leastRow_63 ?_
      refine zz_getr dX2_leastRow_64 fX2_9 (fun _ _ _ _ => rfl) (os_10 hO) (or_10_0 hO) ?_
      refine zz_iload rfl dX2_leastRow_67 ?_
      refine zz_iald dX2_leastRow_69 (os_11 hO) (vp_in_nI (show a < 24 by omega) (by decide)) ?_
      refine zz_iast dX2_leastRow_70 (os_14 hO) (vp_in_nI (show ch < 24 by omega) (by decide)) ?_
      refine zz_iinc dX2_leastRow_71 rfl (congrArg (HAdd.hAdd _) (show Int32.ofInt 1 = 1 by decide)) (by decide) ?_
      try dsimp only [zz_s1, zz_s2, zz_kill, zz_ent, zz_fl, List.set_cons_zero, List.set_cons_succ, List.getElem?_cons_zero, List.getElem?_cons_succ, Option.toList_some, Option.toList_none, List.cons_append, List.nil_append, List.append_nil, List.length_cons, List.length_nil, List.replicate_succ, List.replicate_zero, Nat.reduceAdd, Nat.reduceSub]
      rw [nI_1, nI_clamp (show a < 2 ^ 31 by omega), nI_clamp (show ch < 2 ^ 31 by omega)]
      refine fin (ch + 1) _ (hp_u fr ch a) (fun c c1 c2 c3 c4 => ?_) ?_ ⟨fun i hi => ?_, fun i hi => ⟨?_, fun x hx => ?_⟩⟩ (Nat.lt_succ_self ch) (by omega) (by omega) (by omega) hxu.2
      · rw [zz_ui_ne _ _ _ c3, zz_ui_ne _ _ _ c2]; exact k1 c c1 c2 c3 c4
      · rw [zz_ui_ne _ _ _ (by decide), zz_ui_ne _ _ _ (by decide)]; exact k2
      · by_cases e : i = ch
        · rw [e, hp_u_s, hp_u_s]
          exact ⟨han, ltW_t.mpr (by omega), rfl⟩
        · obtain ⟨z1, z2, z3⟩ := hF.1 i (by omega)
          have := ltW_t.mp z2
          rw [hp_u_n _ e, hp_u_n _ (by omega)]
          exact ⟨z1, ltW_t.mpr (by omega), z3⟩
      · rw [zz_ui_ne _ _ _ (by decide), zz_ui_at]
        by_cases e : i = ch
        · rw [e, pk_us, hp_u_s]
        · rw [pk_un e, hp_u_n _ e, b1 13 (by decide) (by decide)]; exact (hF.2 i (by omega)).1
      · rw [zz_ui_at, ← hp_p_lt, hp_f_add han haf]
        by_cases e : i = ch
        · rw [e, pk_us, zz_ui_ne _ _ _ (by decide), b1 11 (by decide) (by decide), hVx.2.2.2 a han x (by omega)]
          exact ⟨fun z => ⟨fun b hb' pb eb => by have := hW.1 b hb' pb; omega, fun _ => z⟩, fun z => z.2 rfl⟩
        · rw [pk_un e, zz_ui_ne _ _ _ (by decide), b8 rfl i (by omega), (hF.2 i (by omega)).2 x hx]
          exact ⟨fun z => ⟨z, fun y => absurd y e⟩, fun z => z.1⟩
  refine outer n 0 0 t _ I J (fun _ => 0) (fun _ => 0) _ (by omega) (fun x => ?_) (fun _ _ _ _ _ => rfl) (fun _ _ _ => rfl) hT (by omega) (fun b hb' => by omega) ⟨fun h hh => by omega, fun h hh => by omega⟩ ⟨fun x _ z => absurd (ltW_t.mp z) (Nat.not_lt_zero x), fun x y _ _ z => absurd (ltW_t.mp z) (Nat.not_lt_zero x)⟩ (Nat.le_refl _) (Nat.zero_le _) ((hp_x0 (fun x _ => ltW_f.mpr (Nat.not_lt_zero x))).mpr hx) (fun f _ c hc => by omega)
  rw [allI hn, decide_eq_true_eq, ltW_f]
  omega
end PCanEnd

