/-! ===== the class's search for heaps: covers and grow ===== -/
def CSP (M : zz_M) (I : zz_I) (A : Nat → Bool) (D : Nat → Nat → Prop) (t c : Nat) : Prop := ∀ (d : Nat) (J : zz_J) (Q : zz_Q) (th : Int32) (m dep : Nat), MO J t D → (∀ x, bt th x = true → A x = true) → m ≤ 24 → fb_ct (bt th) 32 ≤ c → dep + fb_ct (bt th) 32 ≤ 24 → (∀ (J' : zz_J) (r : Int32), (∀ a, a ≠ 15 → J' a = J a) → MO J' t D → bo r (kc D (bt th) m) → Q (some (.int r)) M I J') → zz_D mX2_covers (d + 2 * c + 3) [.ref 10, .int th, .int (nI m), .int (nI dep)] M I J Q
/-- what grow answers -/
def GR (D : Nat → Nat → Prop) (S op hp : Nat → Bool) (m : Nat) (r : Int32) : Prop := (r = 1 ∧ kc D S (m + 1)) ∨ (r = 0 ∧ ∀ H : Nat → Bool, kx D S H → (∀ x, hp x = true → H x = true) → (∀ x, H x = true → hp x = true ∨ op x = true) → ¬ kc D (df S H) m)
def GSP (M : zz_M) (I : zz_I) (A : Nat → Bool) (D : Nat → Nat → Prop) (t c : Nat) : Prop := ∀ (d : Nat) (J : zz_J) (Q : zz_Q) (lf op pa hp : Int32) (m dep : Nat), MO J t D → (∀ x, bt lf x = true → A x = true) → (∀ x, bt hp x = true → bt lf x = true) → kq D (bt hp) → (∀ x, (bt op x = true ∨ bt pa x = true) ↔ (bt lf x = true ∧ ∀ y, bt hp y = true → D x y)) → m ≤ 23 → fb_ct (df (bt lf) (bt hp)) 32 ≤ c → dep + fb_ct (df (bt lf) (bt hp)) 32 ≤ 24 → (∀ (J' : zz_J) (r : Int32), (∀ a, a ≠ 15 → J' a = J a) → MO J' t D → GR D (bt lf) (bt op) (bt hp) m r → Q (some (.int r)) M I J') → zz_D mX2_grow (d + 2 * c + 4) [.ref 10, .int lf, .int op, .int pa, .int hp, .int (nI (m + 1)), .int (nI dep)] M I J Q
section PCovers
variable {M : zz_M} {I : zz_I} {n w t : Nat} {A : Nat → Bool} {D : Nat → Nat → Prop}
theorem GSP_body (hO : OK M) (hC : CS I n w A D) (c : Nat) (hcv : CSP M I A D t c) (rec : ∀ c', c = c' + 1 → GSP M I A D t c') : GSP M I A D t c := by
  intro d J Q lf op pa hp m dep hM hlf hhp hkq hop hm hc hdep hQ
  have hn := hC.n24
  have h3 := hC.len
  have hl32 : ∀ x, bt lf x = true → x < 24 := fun x hx => by have := hC.lt x (hlf x hx); omega
  have hnot : ∀ x, (bt op x = true ∨ bt pa x = true) → bt hp x = false := fun x hx => ts_nt (fun z => hC.ir x (((hop x).mp hx).2 x z))
  refine zz_D_of rfl (Nat.le_of_ble_eq_true rfl) ?_
  try dsimp only [zz_s1, zz_s2, zz_kill, zz_ent, zz_fl, List.set_cons_zero, List.set_cons_succ, List.getElem?_cons_zero, List.getElem?_cons_succ, Option.toList_some, Option.toList_none, List.cons_append, List.nil_append, List.append_nil, List.length_cons, List.length_nil, List.replicate_succ, List.replicate_zero, Nat.reduceAdd, Nat.reduceSub]
  refine zz_iload_n rfl dX2_grow_0 ?_
  try dsimp only [zz_s1, zz_s2, zz_kill, zz_ent, zz_fl, List.set_cons_zero, List.set_cons_succ, List.getElem?_cons_zero, List.getElem?_cons_succ, Option.toList_some, Option.toList_none, List.cons_append, List.nil_append, List.append_nil, List.length_cons, List.length_nil, List.replicate_succ, List.replicate_zero, Nat.reduceAdd, Nat.reduceSub]
  refine zz_if_ne (tgt := 33) dX2_grow_1 (by decide) (fun h => ?_) (fun h => ?_)
  rotate_left
  · skip
    have ho0 : ∀ x, bt op x = false := fun x => by rw [h]; exact b_0 x
    have hH : ∀ H : Nat → Bool, (∀ x, H x = true → bt hp x = true ∨ bt op x = true) → ∀ x, H x = true → bt hp x = true := fun H h1 x hx => (h1 x hx).resolve_right (fun z => by rw [ho0 x] at z; cases z)
    refine zz_iload_n rfl dX2_grow_4 ?_
    try dsimp only [zz_s1, zz_s2, zz_kill, zz_ent, zz_fl, List.set_cons_zero, List.set_cons_succ, List.getElem?_cons_zero, List.getElem?_cons_succ, Option.toList_some, Option.toList_none, List.cons_append, List.nil_append, List.append_nil, List.length_cons, List.length_nil, List.replicate_succ, List.replicate_zero, Nat.reduceAdd, Nat.reduceSub]
    refine zz_if_ne (tgt := 31) dX2_grow_5 (by decide) (fun h2 => ?_) (fun h2 => ?_)
    · refine zz_iconst (v := 0) (by decide) dX2_grow_31 ?_
      refine zz_ireturn dX2_grow_32 rfl (by first | rfl | decide | assumption) ?_
      refine hQ J 0 (fun _ _ => rfl) hM (Or.inr ⟨rfl, fun H k1 k2 k3 _ => ?_⟩)
      obtain ⟨i, i1, i2⟩ := bt_nz h2
      obtain ⟨j1, j2⟩ := (hop i).mp (Or.inr i2)
      exact k1.2.2 i j1 (fun y hy => j2 y (hH H k3 y hy))
    refine zz_aload_n rfl dX2_grow_8 ?_
    refine zz_iload_n rfl dX2_grow_9 ?_
    refine zz_iload rfl dX2_grow_10 ?_
    refine zz_iconst (v := (-1)) (by decide) dX2_grow_12 ?_
    refine zz_ixor dX2_grow_13 ?_
    refine zz_iand dX2_grow_14 ?_
    refine zz_iload rfl dX2_grow_15 ?_
    refine zz_iconst (v := 1) (by decide) dX2_grow_17 ?_
    refine zz_isub dX2_grow_18 ?_
    refine zz_iload rfl dX2_grow_19 ?_
    try dsimp only [zz_s1, zz_s2, zz_kill, zz_ent, zz_fl, List.set_cons_zero, List.set_cons_succ, List.getElem?_cons_zero, List.getElem?_cons_succ, Option.toList_some, Option.toList_none, List.cons_append, List.nil_append, List.append_nil, List.length_cons, List.length_nil, List.replicate_succ, List.replicate_zero, Nat.reduceAdd, Nat.reduceSub]
    rw [show nI (m + 1) - 1 = nI m from pk_sub (b := 1) (by omega)]
    have eo : bt (lf &&& (hp ^^^ (-1))) = df (bt lf) (bt hp) := funext (fun i => bt_not lf hp i)
    refine zz_cV3 dX2_grow_21 lX2_60 rfl (os_10 hO) rfl rfl (Nat.le_of_ble_eq_true rfl) (Nat.le_of_ble_eq_true rfl) ?_
    refine hcv d J _ _ m dep hM (fun x hx => ?_) (by omega) (by rw [eo]; exact hc) (by rw [eo]; exact hdep) (fun J' r j1 j2 j3 => ?_)
    · rw [eo] at hx
      exact hlf x (df_t.mp hx).1
    rw [eo] at j3
    try dsimp only [zz_s1, zz_s2, zz_kill, zz_ent, zz_fl, List.set_cons_zero, List.set_cons_succ, List.getElem?_cons_zero, List.getElem?_cons_succ, Option.toList_some, Option.toList_none, List.cons_append, List.nil_append, List.append_nil, List.length_cons, List.length_nil, List.replicate_succ, List.replicate_zero, Nat.reduceAdd, Nat.reduceSub]
    refine zz_if_eq (tgt := 31) dX2_grow_24 (by decide) (fun q => ?_) (fun q => ?_)
    · refine zz_iconst (v := 0) (by decide) dX2_grow_31 ?_
      refine zz_ireturn dX2_grow_32 rfl (by first | rfl | decide | assumption) ?_
      refine hQ J' 0 j1 j2 (Or.inr ⟨rfl, fun H k1 k2 k3 hk => j3.f q (kc_sub (fun x hx => ?_) hk)⟩)
      obtain ⟨y1, y2⟩ := df_t.mp hx
      exact df_t.mpr ⟨y1, ts_nt (fun z => by rw [hH H k3 x z] at y2; cases y2)⟩
    · skip
      refine zz_iconst (v := 1) (by decide) dX2_grow_27 ?_
      refine zz_goto (tgt := 32) dX2_grow_28 (by decide) ?_
      refine zz_ireturn dX2_grow_32 rfl (by first | rfl | decide | assumption) ?_
      exact hQ J' 1 j1 j2 (Or.inl ⟨rfl, kc_up hkq (j3.t q)⟩)
  obtain ⟨i, i1, i2⟩ := bt_nz h
  have hi := (hop i).mp (Or.inl i2)
  have hpos : 1 ≤ fb_ct (df (bt lf) (bt hp)) 32 := fb_ct_pos.mpr ⟨i, i1, df_t.mpr ⟨hi.1, hnot i (Or.inl i2)⟩⟩
  obtain ⟨c', rfl⟩ : ∃ c', c = c' + 1 := ⟨c - 1, by omega⟩
  have ih := rec c' rfl
  refine zz_iload rfl dX2_grow_33 ?_
  refine zz_bipush (v := 24) (by decide) dX2_grow_35 ?_
  try dsimp only [zz_s1, zz_s2, zz_kill, zz_ent, zz_fl, List.set_cons_zero, List.set_cons_succ, List.getElem?_cons_zero, List.getElem?_cons_succ, Option.toList_some, Option.toList_none, List.cons_append, List.nil_append, List.append_nil, List.length_cons, List.length_nil, List.replicate_succ, List.replicate_zero, Nat.reduceAdd, Nat.reduceSub]
  refine zz_icmp_le (tgt := 42) dX2_grow_37 (by decide) (fun h4 => ?_) (fun h4 => ?_)
  rotate_left
  · exact absurd (nI_le (b := 24) (show dep ≤ 24 by omega) (by decide)) h4
  refine zz_iload_n rfl dX2_grow_42 ?_
  refine zz_istore dX2_grow_43 (by decide) ?_
  refine zz_iload_n rfl dX2_grow_45 ?_
  refine zz_istore dX2_grow_46 (by decide) ?_
  refine zz_iload_n rfl dX2_grow_48 ?_
  refine zz_aload_n rfl dX2_grow_49 ?_
  refine zz_getr dX2_grow_50 fX2_15 (fun _ _ _ _ => rfl) (os_10 hO) (or_10_1 hO) ?_
  refine zz_aload_n rfl dX2_grow_53 ?_
  refine zz_iload_n rfl dX2_grow_54 ?_
  refine zz_iload_n rfl dX2_grow_55 ?_
  refine zz_ior dX2_grow_56 ?_
  refine zz_iload_n rfl dX2_grow_57 ?_
  try dsimp only [zz_s1, zz_s2, zz_kill, zz_ent, zz_fl, List.set_cons_zero, List.set_cons_succ, List.getElem?_cons_zero, List.getElem?_cons_succ, Option.toList_some, Option.toList_none, List.cons_append, List.nil_append, List.append_nil, List.length_cons, List.length_nil, List.replicate_succ, List.replicate_zero, Nat.reduceAdd, Nat.reduceSub]
  have hopA : ∀ x, bt (op ||| pa) x = true → A x = true := fun x hx => by
    rw [b_or, Bool.or_eq_true] at hx
    exact hlf x ((hop x).mp hx).1
  have hne : ¬ (op ||| pa) = 0 := fun z => by
    have := b_or op pa i
    rw [z, b_0, i2] at this
    simp at this
  refine zz_cV2 dX2_grow_58 lX2_89 rfl (os_10 hO) rfl rfl (Nat.le_of_ble_eq_true rfl) (Nat.le_of_ble_eq_true rfl) ?_
  refine sp_mostOpen (d + 2 * (c' + 1) + 2) hO hC hopA hne (fun v hv hvo => ?_)
  try dsimp only [zz_s1, zz_s2, zz_kill, zz_ent, zz_fl, List.set_cons_zero, List.set_cons_succ, List.getElem?_cons_zero, List.getElem?_cons_succ, Option.toList_some, Option.toList_none, List.cons_append, List.nil_append, List.append_nil, List.length_cons, List.length_nil, List.replicate_succ, List.replicate_zero, Nat.reduceAdd, Nat.reduceSub]
  have hAv := hopA v hvo
  rw [b_or, Bool.or_eq_true] at hvo
  refine zz_iald dX2_grow_61 (os_12 hO) (vp_in_nI (show v < 24 by omega) (by decide)) ?_
  refine zz_iconst (v := (-1)) (by decide) dX2_grow_62 ?_
  refine zz_ixor dX2_grow_63 ?_
  refine zz_iand dX2_grow_64 ?_
  refine zz_istore dX2_grow_65 (by decide) ?_
  refine zz_iconst (v := 0) (by decide) dX2_grow_67 ?_
  refine zz_istore dX2_grow_68 (by decide) ?_
  try dsimp only [zz_s1, zz_s2, zz_kill, zz_ent, zz_fl, List.set_cons_zero, List.set_cons_succ, List.getElem?_cons_zero, List.getElem?_cons_succ, Option.toList_some, Option.toList_none, List.cons_append, List.nil_append, List.append_nil, List.length_cons, List.length_nil, List.replicate_succ, List.replicate_zero, Nat.reduceAdd, Nat.reduceSub]
  rw [nI_clamp (show v < 2 ^ 31 by omega)]
  have htu : ∀ x, bt (op &&& (I 12 v ^^^ (-1))) x = (bt op x && !bt (I 12 v) x) := fun x => bt_not op (I 12 v) x
  generalize op &&& (I 12 v ^^^ (-1)) = tu at htu
  have htu1 : ∀ x, bt tu x = true → bt op x = true := fun x hx => by
    rw [htu, Bool.and_eq_true] at hx
    exact hx.1
  have loop : ∀ (q a : Nat) (so np : Int32) (Jx : zz_J) (z11 : Option Value), a + q = n → (∀ e, e ≠ 15 → Jx e = J e) → MO Jx t D → (∀ x, bt so x = true ↔ (bt op x = true ∧ ¬ (x < a ∧ bt tu x = true))) → (∀ x, bt np x = true ↔ (bt pa x = true ∨ (x < a ∧ bt tu x = true))) → (∀ H : Nat → Bool, kx D (bt lf) H → (∀ x, bt hp x = true → H x = true) → (∀ x, H x = true → bt hp x = true ∨ bt op x = true) → (∃ b, b < a ∧ bt tu b = true ∧ H b = true) → ¬ kc D (df (bt lf) H) m) → zz_G mX2_grow (d + 2 * (c' + 1) + 4) 0 70 [some (.ref 10), some (.int lf), some (.int op), some (.int pa), some (.int hp), some (.int (nI (m + 1))), some (.int (nI dep)), some (.int so), some (.int np), some (.int tu), some (.int (nI a)), z11] [] M I Jx Q := by
    intro q
    induction q with
    | zero =>
      intro a so np Jx z11 ha f1 f2 f3 f4 f5
      have e : a = n := by omega
      subst e
      refine zz_iload rfl dX2_grow_70 ?_
      refine zz_aload_n rfl dX2_grow_72 ?_
      refine zz_geti dX2_grow_73 fX2_32 rfl (os_10 hO) ?_
      try dsimp only [zz_s1, zz_s2, zz_kill, zz_ent, zz_fl, List.set_cons_zero, List.set_cons_succ, List.getElem?_cons_zero, List.getElem?_cons_succ, Option.toList_some, Option.toList_none, List.cons_append, List.nil_append, List.append_nil, List.length_cons, List.length_nil, List.replicate_succ, List.replicate_zero, Nat.reduceAdd, Nat.reduceSub]
      rw [h3]
      refine zz_icmp_ge (tgt := 157) dX2_grow_76 (by decide) (fun h5 => ?_) (fun h5 => ?_)
      · refine zz_iconst (v := 0) (by decide) dX2_grow_157 ?_
        refine zz_ireturn dX2_grow_158 rfl (by first | rfl | decide | assumption) ?_
        refine hQ Jx 0 f1 f2 (Or.inr ⟨rfl, fun H k1 k2 k3 => f5 H k1 k2 k3 (Classical.byContradiction fun z => ?_)⟩)
        obtain ⟨v1, v2⟩ := (hop v).mp hvo
        refine k1.2.2 v v1 (fun y hy => ?_)
        rcases k3 y hy with y1 | y1
        · exact v2 y y1
        · have hAy := hlf y (k1.1 y hy)
          cases c : bt (I 12 v) y with
          | true => exact (hC.nr v hAv y hAy).mp c
          | false => exact absurd ⟨y, hC.lt y hAy, by rw [htu, y1, c]; rfl, hy⟩ z
      · exact absurd (nI_le (Nat.le_refl a) (by omega)) h5
    | succ q ih2 =>
      intro a so np Jx z11 ha f1 f2 f3 f4 f5
      refine zz_iload rfl dX2_grow_70 ?_
      refine zz_aload_n rfl dX2_grow_72 ?_
      refine zz_geti dX2_grow_73 fX2_32 rfl (os_10 hO) ?_
      try dsimp only [zz_s1, zz_s2, zz_kill, zz_ent, zz_fl, List.set_cons_zero, List.set_cons_succ, List.getElem?_cons_zero, List.getElem?_cons_succ, Option.toList_some, Option.toList_none, List.cons_append, List.nil_append, List.append_nil, List.length_cons, List.length_nil, List.replicate_succ, List.replicate_zero, Nat.reduceAdd, Nat.reduceSub]
      rw [h3]
      refine zz_icmp_ge (tgt := 157) dX2_grow_76 (by decide) (fun h5 => ?_) (fun h5 => ?_)
      · exact absurd h5 (nI_ge (by omega) (by omega))
      refine zz_iload rfl dX2_grow_79 ?_
      refine zz_iload rfl dX2_grow_81 ?_
      refine zz_iushr dX2_grow_83 ?_
      refine zz_iconst (v := 1) (by decide) dX2_grow_84 ?_
      refine zz_iand dX2_grow_85 ?_
      try dsimp only [zz_s1, zz_s2, zz_kill, zz_ent, zz_fl, List.set_cons_zero, List.set_cons_succ, List.getElem?_cons_zero, List.getElem?_cons_succ, Option.toList_some, Option.toList_none, List.cons_append, List.nil_append, List.append_nil, List.length_cons, List.length_nil, List.replicate_succ, List.replicate_zero, Nat.reduceAdd, Nat.reduceSub]
      refine zz_if_eq (tgt := 151) dX2_grow_86 (by decide) (fun h6 => ?_) (fun h6 => ?_)
      · have hb := (ubit tu (show a < 32 by omega)).mp h6
        have key : ∀ x, (x < a + 1 ∧ bt tu x = true) ↔ (x < a ∧ bt tu x = true) := fun x => ⟨fun z => ⟨Nat.lt_of_le_of_ne (by omega) (fun e => by rw [e, hb] at z; cases z.2), z.2⟩, fun z => ⟨by omega, z.2⟩⟩
        refine zz_iinc dX2_grow_151 rfl (congrArg (HAdd.hAdd _) (show Int32.ofInt 1 = 1 by decide)) (by decide) ?_
        refine zz_goto (tgt := 70) dX2_grow_154 (by decide) ?_
        try dsimp only [zz_s1, zz_s2, zz_kill, zz_ent, zz_fl, List.set_cons_zero, List.set_cons_succ, List.getElem?_cons_zero, List.getElem?_cons_succ, Option.toList_some, Option.toList_none, List.cons_append, List.nil_append, List.append_nil, List.length_cons, List.length_nil, List.replicate_succ, List.replicate_zero, Nat.reduceAdd, Nat.reduceSub]
        rw [nI_1]
        refine ih2 (a + 1) so np Jx _ (by omega) f1 f2 (fun x => ?_) (fun x => ?_) (fun H k1 k2 k3 k4 => f5 H k1 k2 k3 ?_)
        · rw [key]; exact f3 x
        · rw [key]; exact f4 x
        · obtain ⟨b, b1, b2, b3⟩ := k4
          exact ⟨b, ((key b).mp ⟨b1, b2⟩).1, b2, b3⟩
      have hb := ubit_t tu (show a < 32 by omega) h6
      have hoa := htu1 a hb
      obtain ⟨la, lb⟩ := (hop a).mp (Or.inl hoa)
      have hAa := hlf a la
      have hha := hnot a (Or.inl hoa)
      have ehp : bt (hp ||| ((1 : Int32) <<< (nI a &&& 31))) = hp_p (bt hp) a := funext (fun x => bt_on hp (by omega) x)
      have hsn : ∀ x, (bt so x = true ∨ bt np x = true) ↔ (bt op x = true ∨ bt pa x = true) := fun x => by
        rw [f3, f4]
        constructor
        · rintro (z | z | z)
          · exact Or.inl z.1
          · exact Or.inr z
          · exact Or.inl (htu1 x z.2)
        · rintro (z | z)
          · by_cases e : x < a ∧ bt tu x = true
            · exact Or.inr (Or.inr e)
            · exact Or.inl ⟨z, e⟩
          · exact Or.inr (Or.inl z)
      have hct : fb_ct (df (bt lf) (hp_p (bt hp) a)) 32 + 1 = fb_ct (df (bt lf) (bt hp)) 32 := by
        rw [df_p]
        exact ct_rm (by omega) (df_t.mpr ⟨la, hha⟩)
      refine zz_aload_n rfl dX2_grow_89 ?_
      refine zz_getr dX2_grow_90 fX2_15 (fun _ _ _ _ => rfl) (os_10 hO) (or_10_1 hO) ?_
      refine zz_iload rfl dX2_grow_93 ?_
      refine zz_iald dX2_grow_95 (os_12 hO) (vp_in_nI (show a < 24 by omega) (by decide)) ?_
      refine zz_istore dX2_grow_96 (by decide) ?_
      refine zz_aload_n rfl dX2_grow_98 ?_
      refine zz_iload_n rfl dX2_grow_99 ?_
      refine zz_iload rfl dX2_grow_100 ?_
      refine zz_iload rfl dX2_grow_102 ?_
      refine zz_iand dX2_grow_104 ?_
      refine zz_iload rfl dX2_grow_105 ?_
      refine zz_iload rfl dX2_grow_107 ?_
      refine zz_iand dX2_grow_109 ?_
      refine zz_iload rfl dX2_grow_110 ?_
      refine zz_iconst (v := 1) (by decide) dX2_grow_112 ?_
      refine zz_iload rfl dX2_grow_113 ?_
      refine zz_ishl dX2_grow_115 ?_
      refine zz_ior dX2_grow_116 ?_
      refine zz_iload rfl dX2_grow_117 ?_
      refine zz_iload rfl dX2_grow_119 ?_
      refine zz_iconst (v := 1) (by decide) dX2_grow_121 ?_
      refine zz_iadd dX2_grow_122 ?_
      try dsimp only [zz_s1, zz_s2, zz_kill, zz_ent, zz_fl, List.set_cons_zero, List.set_cons_succ, List.getElem?_cons_zero, List.getElem?_cons_succ, Option.toList_some, Option.toList_none, List.cons_append, List.nil_append, List.append_nil, List.length_cons, List.length_nil, List.replicate_succ, List.replicate_zero, Nat.reduceAdd, Nat.reduceSub]
      rw [nI_clamp (show a < 2 ^ 31 by omega), nI_1]
      refine zz_cV6 dX2_grow_123 lX2_82 rfl (os_10 hO) rfl rfl (Nat.le_of_ble_eq_true rfl) (Nat.le_of_ble_eq_true rfl) ?_
      rw [show d + 2 * (c' + 1) + 3 = (d + 1) + 2 * c' + 4 by omega]
      refine ih (d + 1) Jx _ lf _ _ _ m (dep + 1) f2 hlf (fun x hx => ?_) ?_ (fun x => ?_) hm (by rw [ehp]; omega) (by rw [ehp]; omega) (fun J' r j1 j2 j3 => ?_)
      · rw [ehp] at hx
        exact (hp_p_t.mp hx).elim (hhp x) (fun z => by rw [z]; exact la)
      · rw [ehp]
        intro x y hx hy hne
        rcases hp_p_t.mp hx with p | p
        · rcases hp_p_t.mp hy with p' | p'
          · exact hkq x y p p' hne
          · rw [p']; exact hC.sy _ _ (lb x p)
        · rcases hp_p_t.mp hy with p' | p'
          · rw [p]; exact lb y p'
          · exact absurd (p.trans p'.symm) hne
      · rw [ehp, b_and, b_and, Bool.and_eq_true, Bool.and_eq_true, ← or_and_right, hsn, hop]
        constructor
        · rintro ⟨⟨z1, z2⟩, z3⟩
          refine ⟨z1, fun y hy => ?_⟩
          rcases hp_p_t.mp hy with p | p
          · exact z2 y p
          · rw [p]; exact hC.sy _ _ ((hC.nr a hAa x (hlf x z1)).mp z3)
        · rintro ⟨z1, z2⟩
          exact ⟨⟨z1, fun y hy => z2 y (hp_p_t.mpr (Or.inl hy))⟩, (hC.nr a hAa x (hlf x z1)).mpr (hC.sy _ _ (z2 a (hp_p_t.mpr (Or.inr rfl))))⟩
      rw [ehp] at j3
      have f1' : ∀ e, e ≠ 15 → J' e = J e := fun e he => (j1 e he).trans (f1 e he)
      try dsimp only [zz_s1, zz_s2, zz_kill, zz_ent, zz_fl, List.set_cons_zero, List.set_cons_succ, List.getElem?_cons_zero, List.getElem?_cons_succ, Option.toList_some, Option.toList_none, List.cons_append, List.nil_append, List.append_nil, List.length_cons, List.length_nil, List.replicate_succ, List.replicate_zero, Nat.reduceAdd, Nat.reduceSub]
      refine zz_if_eq (tgt := 131) dX2_grow_126 (by decide) (fun h7 => ?_) (fun h7 => ?_)
      · have j4 : ∀ H : Nat → Bool, kx D (bt lf) H → (∀ x, hp_p (bt hp) a x = true → H x = true) → (∀ x, H x = true → hp_p (bt hp) a x = true ∨ bt (so &&& I 12 a) x = true) → ¬ kc D (df (bt lf) H) m := by
          rcases j3 with z | z
          · rw [z.1] at h7; exact absurd h7 (by decide)
          · exact z.2
        refine zz_iload rfl dX2_grow_131 ?_
        refine zz_iconst (v := 1) (by decide) dX2_grow_133 ?_
        refine zz_iload rfl dX2_grow_134 ?_
        refine zz_ishl dX2_grow_136 ?_
        refine zz_iconst (v := (-1)) (by decide) dX2_grow_137 ?_
        refine zz_ixor dX2_grow_138 ?_
        refine zz_iand dX2_grow_139 ?_
        refine zz_istore dX2_grow_140 (by decide) ?_
        refine zz_iload rfl dX2_grow_142 ?_
        refine zz_iconst (v := 1) (by decide) dX2_grow_144 ?_
        refine zz_iload rfl dX2_grow_145 ?_
        refine zz_ishl dX2_grow_147 ?_
        refine zz_ior dX2_grow_148 ?_
        refine zz_istore dX2_grow_149 (by decide) ?_
        refine zz_iinc dX2_grow_151 rfl (congrArg (HAdd.hAdd _) (show Int32.ofInt 1 = 1 by decide)) (by decide) ?_
        refine zz_goto (tgt := 70) dX2_grow_154 (by decide) ?_
        try dsimp only [zz_s1, zz_s2, zz_kill, zz_ent, zz_fl, List.set_cons_zero, List.set_cons_succ, List.getElem?_cons_zero, List.getElem?_cons_succ, Option.toList_some, Option.toList_none, List.cons_append, List.nil_append, List.append_nil, List.length_cons, List.length_nil, List.replicate_succ, List.replicate_zero, Nat.reduceAdd, Nat.reduceSub]
        rw [nI_1, show d + 1 + 2 * c' + 4 + 1 = d + 2 * (c' + 1) + 4 by omega]
        refine ih2 (a + 1) _ _ J' _ (by omega) f1' j2 (fun x => ?_) (fun x => ?_) (fun H k1 k2 k3 k4 => ?_)
        · rw [bt_off so (by omega), rm_t, f3]
          constructor
          · rintro ⟨⟨z1, z2⟩, z3⟩
            exact ⟨z1, fun y => z2 ⟨by omega, y.2⟩⟩
          · rintro ⟨z1, z2⟩
            exact ⟨⟨z1, fun y => z2 ⟨by omega, y.2⟩⟩, fun y => z2 ⟨by omega, by rw [y]; exact hb⟩⟩
        · rw [bt_on np (by omega), hp_p_t, f4]
          constructor
          · rintro ((z | z) | z)
            · exact Or.inl z
            · exact Or.inr ⟨by omega, z.2⟩
            · exact Or.inr ⟨by omega, by rw [z]; exact hb⟩
          · rintro (z | z)
            · exact Or.inl (Or.inl z)
            · by_cases e : x = a
              · exact Or.inr e
              · exact Or.inl (Or.inr ⟨by omega, z.2⟩)
        · by_cases ex : ∃ b, b < a ∧ bt tu b = true ∧ H b = true
          · exact f5 H k1 k2 k3 ex
          · obtain ⟨b, b1, b2, b3⟩ := k4
            have eb : b = a := Classical.byContradiction fun z => ex ⟨b, by omega, b2, b3⟩
            subst eb
            refine j4 H k1 (fun x hx => (hp_p_t.mp hx).elim (k2 x) (fun z => by rw [z]; exact b3)) (fun x hx => ?_)
            by_cases e : x = b
            · exact Or.inl (hp_p_t.mpr (Or.inr e))
            · rcases k3 x hx with z | z
              · exact Or.inl (hp_p_t.mpr (Or.inl z))
              · refine Or.inr ?_
                rw [b_and, Bool.and_eq_true, f3]
                exact ⟨⟨z, fun y => ex ⟨x, y.1, y.2, hx⟩⟩, (hC.nr b hAa x (hlf x (k1.1 x hx))).mpr (k1.2.1 b x b3 hx (fun y => e y.symm))⟩
      · skip
        refine zz_iconst (v := 1) (by decide) dX2_grow_129 ?_
        refine zz_ireturn dX2_grow_130 rfl (by first | rfl | decide | assumption) ?_
        rcases j3 with z | z
        · exact hQ J' 1 f1' j2 (Or.inl ⟨rfl, z.2⟩)
        · exact absurd z.1 h7
  exact loop n 0 op pa J _ (by omega) (fun _ _ => rfl) hM (fun x => ⟨fun z => ⟨z, fun y => by omega⟩, fun z => z.1⟩) (fun x => ⟨Or.inl, fun z => z.resolve_right (fun y => by omega)⟩) (fun H _ _ _ z => by obtain ⟨b, b1, -⟩ := z; omega)
theorem CSP_body (hO : OK M) (hC : CS I n w A D) (ht : t < 2 ^ 31) (c : Nat) (rec : ∀ c', c = c' + 1 → GSP M I A D t c') : CSP M I A D t c := by
  intro d J Q th m dep hM hth hm hc hdep hQ
  have hn := hC.n24
  refine zz_D_of rfl (Nat.le_of_ble_eq_true rfl) ?_
  try dsimp only [zz_s1, zz_s2, zz_kill, zz_ent, zz_fl, List.set_cons_zero, List.set_cons_succ, List.getElem?_cons_zero, List.getElem?_cons_succ, Option.toList_some, Option.toList_none, List.cons_append, List.nil_append, List.append_nil, List.length_cons, List.length_nil, List.replicate_succ, List.replicate_zero, Nat.reduceAdd, Nat.reduceSub]
  refine zz_aload_n rfl dX2_covers_0 ?_
  refine zz_iload_n rfl dX2_covers_1 ?_
  refine zz_iload_n rfl dX2_covers_2 ?_
  try dsimp only [zz_s1, zz_s2, zz_kill, zz_ent, zz_fl, List.set_cons_zero, List.set_cons_succ, List.getElem?_cons_zero, List.getElem?_cons_succ, Option.toList_some, Option.toList_none, List.cons_append, List.nil_append, List.append_nil, List.length_cons, List.length_nil, List.replicate_succ, List.replicate_zero, Nat.reduceAdd, Nat.reduceSub]
  refine zz_cV2 dX2_covers_3 lX2_64 rfl (os_10 hO) rfl rfl (Nat.le_of_ble_eq_true rfl) (Nat.le_of_ble_eq_true rfl) ?_
  refine sp_withoutEasy (d + 2 * c + 1) hO hC hm hth (fun lf h1 h2 => ?_)
  try dsimp only [zz_s1, zz_s2, zz_kill, zz_ent, zz_fl, List.set_cons_zero, List.set_cons_succ, List.getElem?_cons_zero, List.getElem?_cons_succ, Option.toList_some, Option.toList_none, List.cons_append, List.nil_append, List.append_nil, List.length_cons, List.length_nil, List.replicate_succ, List.replicate_zero, Nat.reduceAdd, Nat.reduceSub]
  have hlA : ∀ x, bt lf x = true → A x = true := fun x hx => hth x (h1 x hx)
  have hl24 : ∀ x, bt lf x = true → x < 24 := fun x hx => by have := hC.lt x (hlA x hx); omega
  have hcl : fb_ct (bt lf) 32 ≤ fb_ct (bt th) 32 := fb_ct_sub (fun x _ hx => h1 x hx)
  refine zz_istore dX2_covers_6 (by decide) ?_
  refine zz_iload rfl dX2_covers_8 ?_
  try dsimp only [zz_s1, zz_s2, zz_kill, zz_ent, zz_fl, List.set_cons_zero, List.set_cons_succ, List.getElem?_cons_zero, List.getElem?_cons_succ, Option.toList_some, Option.toList_none, List.cons_append, List.nil_append, List.append_nil, List.length_cons, List.length_nil, List.replicate_succ, List.replicate_zero, Nat.reduceAdd, Nat.reduceSub]
  refine zz_if_ne (tgt := 15) dX2_covers_10 (by decide) (fun h => ?_) (fun h => ?_)
  rotate_left
  · skip
    refine zz_iconst (v := 1) (by decide) dX2_covers_13 ?_
    refine zz_ireturn dX2_covers_14 rfl (by first | rfl | decide | assumption) ?_
    exact hQ J 1 (fun _ _ => rfl) hM (bo.one (h2.mp (kc_nil (fun x => by rw [h]; exact b_0 x))))
  have hpos : 1 ≤ fb_ct (bt lf) 32 := by
    obtain ⟨i, i1, i2⟩ := bt_nz h
    exact fb_ct_pos.mpr ⟨i, i1, i2⟩
  have hct24 := ct24 hl24
  have hmw : m * w ≤ 24 * 24 := Nat.mul_le_mul hm hC.w24
  obtain ⟨c', rfl⟩ : ∃ c', c = c' + 1 := ⟨c - 1, by omega⟩
  refine zz_iload rfl dX2_covers_15 ?_
  try dsimp only [zz_s1, zz_s2, zz_kill, zz_ent, zz_fl, List.set_cons_zero, List.set_cons_succ, List.getElem?_cons_zero, List.getElem?_cons_succ, Option.toList_some, Option.toList_none, List.cons_append, List.nil_append, List.append_nil, List.length_cons, List.length_nil, List.replicate_succ, List.replicate_zero, Nat.reduceAdd, Nat.reduceSub]
  refine zz_cS1 dX2_covers_17 lX2_67 rfl (Nat.le_of_ble_eq_true rfl) (Nat.le_of_ble_eq_true rfl) ?_
  refine sp_bitCountI (d + 2 * (c' + 1) + 2) ?_
  try dsimp only [zz_s1, zz_s2, zz_kill, zz_ent, zz_fl, List.set_cons_zero, List.set_cons_succ, List.getElem?_cons_zero, List.getElem?_cons_succ, Option.toList_some, Option.toList_none, List.cons_append, List.nil_append, List.append_nil, List.length_cons, List.length_nil, List.replicate_succ, List.replicate_zero, Nat.reduceAdd, Nat.reduceSub]
  refine zz_iload_n rfl dX2_covers_20 ?_
  refine zz_aload_n rfl dX2_covers_21 ?_
  refine zz_geti dX2_covers_22 fX2_39 rfl (os_10 hO) ?_
  refine zz_imul dX2_covers_25 ?_
  try dsimp only [zz_s1, zz_s2, zz_kill, zz_ent, zz_fl, List.set_cons_zero, List.set_cons_succ, List.getElem?_cons_zero, List.getElem?_cons_succ, Option.toList_some, Option.toList_none, List.cons_append, List.nil_append, List.append_nil, List.length_cons, List.length_nil, List.replicate_succ, List.replicate_zero, Nat.reduceAdd, Nat.reduceSub]
  rw [hC.wid, pk_mul]
  refine zz_icmp_gt (tgt := 49) dX2_covers_26 (by decide) (fun q1 => ?_) (fun q1 => ?_)
  · refine zz_iconst (v := 0) (by decide) dX2_covers_49 ?_
    refine zz_ireturn dX2_covers_50 rfl (by first | rfl | decide | assumption) ?_
    refine hQ J 0 (fun _ _ => rfl) hM (bo.zero fun hk => ?_)
    have := kc_wide (fun C z1 z2 => hC.wb C (fun x hx => hlA x (z1 x hx)) z2) (h2.mpr hk)
    have := (nI_ltI (by omega) (by omega)).mp q1
    omega
  have hle : fb_ct (bt lf) 32 ≤ m * w := Nat.le_of_not_lt fun z => q1 (nI_lt z (by omega))
  obtain ⟨m', rfl⟩ : ∃ m', m = m' + 1 := ⟨m - 1, by
    rcases Nat.eq_zero_or_pos m with z | z
    · rw [z, Nat.zero_mul] at hle; omega
    · omega⟩
  refine zz_aload_n rfl dX2_covers_29 ?_
  refine zz_iload rfl dX2_covers_30 ?_
  refine zz_iload_n rfl dX2_covers_32 ?_
  try dsimp only [zz_s1, zz_s2, zz_kill, zz_ent, zz_fl, List.set_cons_zero, List.set_cons_succ, List.getElem?_cons_zero, List.getElem?_cons_succ, Option.toList_some, Option.toList_none, List.cons_append, List.nil_append, List.append_nil, List.length_cons, List.length_nil, List.replicate_succ, List.replicate_zero, Nat.reduceAdd, Nat.reduceSub]
  refine zz_cV2 dX2_covers_33 lX2_73 rfl (os_10 hO) rfl rfl (Nat.le_of_ble_eq_true rfl) (Nat.le_of_ble_eq_true rfl) ?_
  refine sp_hasFailed (d + 2 * (c' + 1) + 1) hO hm ht hM hl24 (fun r hr => ?_)
  try dsimp only [zz_s1, zz_s2, zz_kill, zz_ent, zz_fl, List.set_cons_zero, List.set_cons_succ, List.getElem?_cons_zero, List.getElem?_cons_succ, Option.toList_some, Option.toList_none, List.cons_append, List.nil_append, List.append_nil, List.length_cons, List.length_nil, List.replicate_succ, List.replicate_zero, Nat.reduceAdd, Nat.reduceSub]
  refine zz_if_ne (tgt := 49) dX2_covers_36 (by decide) (fun q2 => ?_) (fun q2 => ?_)
  · refine zz_iconst (v := 0) (by decide) dX2_covers_49 ?_
    refine zz_ireturn dX2_covers_50 rfl (by first | rfl | decide | assumption) ?_
    refine hQ J 0 (fun _ _ => rfl) hM (bo.zero fun hk => ?_)
    rcases hr with z | z
    · exact q2 z
    · exact z.2 (h2.mpr hk)
  refine zz_aload_n rfl dX2_covers_39 ?_
  refine zz_iload rfl dX2_covers_40 ?_
  try dsimp only [zz_s1, zz_s2, zz_kill, zz_ent, zz_fl, List.set_cons_zero, List.set_cons_succ, List.getElem?_cons_zero, List.getElem?_cons_succ, Option.toList_some, Option.toList_none, List.cons_append, List.nil_append, List.append_nil, List.length_cons, List.length_nil, List.replicate_succ, List.replicate_zero, Nat.reduceAdd, Nat.reduceSub]
  refine zz_cV1 dX2_covers_42 lX2_76 rfl (os_10 hO) rfl rfl (Nat.le_of_ble_eq_true rfl) (Nat.le_of_ble_eq_true rfl) ?_
  refine sp_apart (d + 2 * (c' + 1)) hO hC hlA (fun p hp hk => ?_)
  try dsimp only [zz_s1, zz_s2, zz_kill, zz_ent, zz_fl, List.set_cons_zero, List.set_cons_succ, List.getElem?_cons_zero, List.getElem?_cons_succ, Option.toList_some, Option.toList_none, List.cons_append, List.nil_append, List.append_nil, List.length_cons, List.length_nil, List.replicate_succ, List.replicate_zero, Nat.reduceAdd, Nat.reduceSub]
  refine zz_iload_n rfl dX2_covers_45 ?_
  try dsimp only [zz_s1, zz_s2, zz_kill, zz_ent, zz_fl, List.set_cons_zero, List.set_cons_succ, List.getElem?_cons_zero, List.getElem?_cons_succ, Option.toList_some, Option.toList_none, List.cons_append, List.nil_append, List.append_nil, List.length_cons, List.length_nil, List.replicate_succ, List.replicate_zero, Nat.reduceAdd, Nat.reduceSub]
  refine zz_icmp_le (tgt := 51) dX2_covers_46 (by decide) (fun q3 => ?_) (fun q3 => ?_)
  rotate_left
  · skip
    refine zz_iconst (v := 0) (by decide) dX2_covers_49 ?_
    refine zz_ireturn dX2_covers_50 rfl (by first | rfl | decide | assumption) ?_
    refine hQ J 0 (fun _ _ => rfl) hM (bo.zero fun hk' => ?_)
    exact q3 (nI_le (hk _ (h2.mpr hk')) (by omega))
  refine zz_aload_n rfl dX2_covers_51 ?_
  refine zz_iload rfl dX2_covers_52 ?_
  try dsimp only [zz_s1, zz_s2, zz_kill, zz_ent, zz_fl, List.set_cons_zero, List.set_cons_succ, List.getElem?_cons_zero, List.getElem?_cons_succ, Option.toList_some, Option.toList_none, List.cons_append, List.nil_append, List.append_nil, List.length_cons, List.length_nil, List.replicate_succ, List.replicate_zero, Nat.reduceAdd, Nat.reduceSub]
  refine zz_cV1 dX2_covers_54 lX2_79 rfl (os_10 hO) rfl rfl (Nat.le_of_ble_eq_true rfl) (Nat.le_of_ble_eq_true rfl) ?_
  refine sp_loneliest (d + 2 * (c' + 1) + 1) hO hC hlA h (fun v hv hvl => ?_)
  try dsimp only [zz_s1, zz_s2, zz_kill, zz_ent, zz_fl, List.set_cons_zero, List.set_cons_succ, List.getElem?_cons_zero, List.getElem?_cons_succ, Option.toList_some, Option.toList_none, List.cons_append, List.nil_append, List.append_nil, List.length_cons, List.length_nil, List.replicate_succ, List.replicate_zero, Nat.reduceAdd, Nat.reduceSub]
  have hAv := hlA v hvl
  refine zz_istore dX2_covers_57 (by decide) ?_
  refine zz_aload_n rfl dX2_covers_59 ?_
  refine zz_iload rfl dX2_covers_60 ?_
  refine zz_aload_n rfl dX2_covers_62 ?_
  refine zz_getr dX2_covers_63 fX2_15 (fun _ _ _ _ => rfl) (os_10 hO) (or_10_1 hO) ?_
  refine zz_iload rfl dX2_covers_66 ?_
  refine zz_iald dX2_covers_68 (os_12 hO) (vp_in_nI (show v < 24 by omega) (by decide)) ?_
  refine zz_iload rfl dX2_covers_69 ?_
  refine zz_iand dX2_covers_71 ?_
  refine zz_iconst (v := 0) (by decide) dX2_covers_72 ?_
  refine zz_iconst (v := 1) (by decide) dX2_covers_73 ?_
  refine zz_iload rfl dX2_covers_74 ?_
  refine zz_ishl dX2_covers_76 ?_
  refine zz_iload_n rfl dX2_covers_77 ?_
  refine zz_iload_n rfl dX2_covers_78 ?_
  refine zz_iconst (v := 1) (by decide) dX2_covers_79 ?_
  refine zz_iadd dX2_covers_80 ?_
  try dsimp only [zz_s1, zz_s2, zz_kill, zz_ent, zz_fl, List.set_cons_zero, List.set_cons_succ, List.getElem?_cons_zero, List.getElem?_cons_succ, Option.toList_some, Option.toList_none, List.cons_append, List.nil_append, List.append_nil, List.length_cons, List.length_nil, List.replicate_succ, List.replicate_zero, Nat.reduceAdd, Nat.reduceSub]
  rw [nI_clamp (show v < 2 ^ 31 by omega), nI_1]
  have ehp : bt ((1 : Int32) <<< (nI v &&& 31)) = fun x => decide (x = v) := funext (fun x => bt_bit (by omega) x)
  have hrc : fb_ct (df (bt lf) (fun x => decide (x = v))) 32 + 1 = fb_ct (bt lf) 32 := ct_rm (by omega) hvl
  refine zz_cV6 dX2_covers_81 lX2_82 rfl (os_10 hO) rfl rfl (Nat.le_of_ble_eq_true rfl) (Nat.le_of_ble_eq_true rfl) ?_
  rw [show d + 2 * (c' + 1) + 2 = d + 2 * c' + 4 by omega]
  refine rec c' rfl d J _ lf _ 0 _ m' (dep + 1) hM hlA (fun x hx => ?_) (fun x y hx hy hne => ?_) (fun x => ?_) (by omega) (by rw [ehp]; omega) (by rw [ehp]; omega) (fun J' r j1 j2 j3 => ?_)
  · rw [ehp, decide_eq_true_eq] at hx
    rw [hx]; exact hvl
  · rw [ehp, decide_eq_true_eq] at hx hy
    exact absurd (hx.trans hy.symm) hne
  · rw [ehp, b_0, b_and, Bool.and_eq_true]
    constructor
    · rintro (z | z)
      · refine ⟨z.2, fun y hy => ?_⟩
        rw [decide_eq_true_eq] at hy
        rw [hy]
        exact hC.sy _ _ ((hC.nr v hAv x (hlA x z.2)).mp z.1)
      · cases z
    · rintro ⟨z1, z2⟩
      exact Or.inl ⟨(hC.nr v hAv x (hlA x z1)).mpr (hC.sy _ _ (z2 v (decide_eq_true rfl))), z1⟩
  try dsimp only [zz_s1, zz_s2, zz_kill, zz_ent, zz_fl, List.set_cons_zero, List.set_cons_succ, List.getElem?_cons_zero, List.getElem?_cons_succ, Option.toList_some, Option.toList_none, List.cons_append, List.nil_append, List.append_nil, List.length_cons, List.length_nil, List.replicate_succ, List.replicate_zero, Nat.reduceAdd, Nat.reduceSub]
  refine zz_if_eq (tgt := 89) dX2_covers_84 (by decide) (fun q4 => ?_) (fun q4 => ?_)
  rotate_left
  · skip
    refine zz_iconst (v := 1) (by decide) dX2_covers_87 ?_
    refine zz_ireturn dX2_covers_88 rfl (by first | rfl | decide | assumption) ?_
    rcases j3 with z | z
    · exact hQ J' 1 j1 j2 (bo.one (h2.mp z.2))
    · exact absurd z.1 q4
  have hno : ¬ kc D (bt lf) (m' + 1) := by
    rcases j3 with z | z
    · rw [z.1] at q4; exact absurd q4 (by decide)
    · intro hk
      obtain ⟨H, H1, H2, H3⟩ := kc_pick (fun x hx => bt_lt hx) hC.ir hC.sy hvl hk
      refine z.2 H H2 (fun x hx => ?_) (fun x hx => ?_) H3
      · rw [ehp, decide_eq_true_eq] at hx
        rw [hx]; exact H1
      · by_cases e : x = v
        · exact Or.inl (by rw [ehp]; exact decide_eq_true e)
        · refine Or.inr ?_
          rw [b_and, Bool.and_eq_true]
          exact ⟨(hC.nr v hAv x (hlA x (H2.1 x hx))).mpr (H2.2.1 v x H1 hx (fun y => e y.symm)), H2.1 x hx⟩
  obtain ⟨L, L1, L2, L3⟩ := nI24 hl24
  refine zz_aload_n rfl dX2_covers_89 ?_
  refine zz_getr dX2_covers_90 fX2_24 (fun _ _ _ _ => rfl) (os_10 hO) (or_10_4 hO) ?_
  refine zz_iload rfl dX2_covers_93 ?_
  try dsimp only [zz_s1, zz_s2, zz_kill, zz_ent, zz_fl, List.set_cons_zero, List.set_cons_succ, List.getElem?_cons_zero, List.getElem?_cons_succ, Option.toList_some, Option.toList_none, List.cons_append, List.nil_append, List.append_nil, List.length_cons, List.length_nil, List.replicate_succ, List.replicate_zero, Nat.reduceAdd, Nat.reduceSub]
  refine zz_cS1 dX2_covers_95 lX2_86 rfl (Nat.le_of_ble_eq_true rfl) (Nat.le_of_ble_eq_true rfl) ?_
  refine sp_slot (d + 2 * (c' + 1) + 2) (fun s hs => ?_)
  try dsimp only [zz_s1, zz_s2, zz_kill, zz_ent, zz_fl, List.set_cons_zero, List.set_cons_succ, List.getElem?_cons_zero, List.getElem?_cons_succ, Option.toList_some, Option.toList_none, List.cons_append, List.nil_append, List.append_nil, List.length_cons, List.length_nil, List.replicate_succ, List.replicate_zero, Nat.reduceAdd, Nat.reduceSub]
  refine zz_aload_n rfl dX2_covers_98 ?_
  refine zz_getl dX2_covers_99 fX2_28 rfl (os_10 hO) ?_
  refine zz_bipush (v := 32) (by decide) dX2_covers_102 ?_
  refine zz_lshl dX2_covers_104 ?_
  refine zz_iload_n rfl dX2_covers_105 ?_
  refine zz_i2l dX2_covers_106 ?_
  refine zz_bipush (v := 24) (by decide) dX2_covers_107 ?_
  refine zz_lshl dX2_covers_109 ?_
  refine zz_lor dX2_covers_110 ?_
  refine zz_iload rfl dX2_covers_111 ?_
  refine zz_i2l dX2_covers_113 ?_
  refine zz_lor dX2_covers_114 ?_
  refine zz_last dX2_covers_115 (os_15 hO) (vp_in_nI hs (by decide)) ?_
  refine zz_iconst (v := 0) (by decide) dX2_covers_116 ?_
  refine zz_ireturn dX2_covers_117 rfl (by first | rfl | decide | assumption) ?_
  rw [nI_clamp (show s < 2 ^ 31 by omega), j2.1]
  have hval : jv_lshl (lN t) 32 ||| jv_lshl (nI (m' + 1)).toInt64 24 ||| lf.toInt64 = lN (16777216 * (256 * t + (m' + 1)) + L) := by
    rw [L2, nI_l (by omega), nI_l (by omega), show (32 : Int32) = nI 32 from rfl, show (24 : Int32) = nI 24 from rfl, lsh_nI (by decide), lsh_nI (by decide), Nat.mul_comm t, fb_or_sumL (k := 32) t (by omega), show 2 ^ 32 * t + (m' + 1) * 2 ^ 24 = 2 ^ 24 * (256 * t + (m' + 1)) by omega, fb_or_sumL (k := 24) _ (by omega)]
  rw [hval]
  refine hQ _ 0 (fun a ha => ?_) ⟨?_, fun s' hs' => ?_⟩ (bo.zero fun hk => hno (h2.mpr hk))
  · rw [zz_uj_ne _ _ _ ha]; exact j1 a ha
  · rw [zz_uj_ne _ _ _ (by decide)]; exact j2.1
  · rw [zz_uj_at]
    by_cases e : s' = s
    · rw [e, pk_uLs]
      refine ⟨16777216 * (256 * t + (m' + 1)) + L, by omega, rfl, by omega, fun _ m2 hm2 hk => hno (kc_mono (m := m2) (by omega) (kc_sub (fun x hx => ?_) hk))⟩
      show ((16777216 * (256 * t + (m' + 1)) + L) % 16777216).testBit x = true
      rw [show (16777216 * (256 * t + (m' + 1)) + L) % 16777216 = L by omega, ← L3]
      exact hx
    · rw [pk_uLn e]
      exact j2.2 s' hs'
theorem sp_gc (hO : OK M) (hC : CS I n w A D) (ht : t < 2 ^ 31) : ∀ c, CSP M I A D t c ∧ GSP M I A D t c
  | 0 =>
    have h1 := CSP_body hO hC ht 0 (fun c' h => by omega)
    ⟨h1, GSP_body hO hC 0 h1 (fun c' h => by omega)⟩
  | c + 1 =>
    have ih := sp_gc hO hC ht c
    have h1 := CSP_body hO hC ht (c + 1) (fun c' h => by cases h; exact ih.2)
    ⟨h1, GSP_body hO hC (c + 1) h1 (fun c' h => by cases h; exact ih.2)⟩
end PCovers

