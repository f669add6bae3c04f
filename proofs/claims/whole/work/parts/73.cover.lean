/-! ===== the class's search for heaps: its parts ===== -/
theorem ct24 {p : Nat → Bool} (h : ∀ x, p x = true → x < 24) : fb_ct p 32 ≤ 24 := by
  have h1 : fb_ct p 32 = fb_ct p 24 + fb_ct (fun k => p (24 + k)) 8 := fb_ct_split p 24 8
  have h2 : fb_ct (fun k => p (24 + k)) 8 = 0 := fb_ct_zero.mpr (fun k _ => by
    cases c : p (24 + k) with
    | false => rfl
    | true => have := h _ c; omega)
  have h3 := fb_ct_le p 24
  omega
theorem nI_min (a b : Nat) (ha : a < 2 ^ 31) (hb : b < 2 ^ 31) : (if nI b < nI a then nI b else nI a) = nI (min a b) := by
  by_cases h : b < a
  · rw [if_pos (nI_lt h ha), Nat.min_eq_right (by omega)]
  · rw [if_neg (nI_nlt (by omega) hb), Nat.min_eq_left (by omega)]
theorem nI_max (a b : Nat) (ha : a < 2 ^ 31) (hb : b < 2 ^ 31) : (if nI a < nI b then nI b else nI a) = nI (max a b) := by
  by_cases h : a < b
  · rw [if_pos (nI_lt h hb), Nat.max_eq_right (by omega)]
  · rw [if_neg (nI_nlt (by omega) ha), Nat.max_eq_left (by omega)]
/-- what the search knows of the line -/
def CV (I : zz_I) (n k w : Nat) (E : Nat → Nat → Bool) : Prop := I 10 3 = nI n ∧ I 10 4 = nI k ∧ I 10 5 = nI w ∧ ∀ x, x < n → ∀ b, b < 32 → bt (I 11 x) b = E x b
/-- what it holds of the heaps -/
def CF (I : zz_I) (n u : Nat) (E : Nat → Nat → Bool) (P : Nat → Bool) (g : Nat → Nat) : Prop := ∀ h, h < u → (∀ x, x < n → (bt (I 12 h) x = true ↔ hp_f n E P g h x)) ∧ I 13 h = nI (hp_c n P g h)
theorem CV_of {I I' : zz_I} {n k w : Nat} {E : Nat → Nat → Bool} (h : ∀ a, a ≠ 12 → a ≠ 13 → I' a = I a) (hV : CV I n k w E) : CV I' n k w E := by
  unfold CV
  rw [h 10 (by decide) (by decide), h 11 (by decide) (by decide)]
  exact hV
theorem hp_f_add {n : Nat} {E : Nat → Nat → Bool} {P : Nat → Bool} {g : Nat → Nat} {a h h' x : Nat} (ha : a < n) (hP : P a = false) : hp_f n E (hp_p P a) (hp_u g a h) h' x ↔ hp_f n E P g h' x ∧ (h' = h → E a x = true) := by
  constructor
  · intro z
    refine ⟨fun b hb pb e => ?_, fun e => z a ha (hp_p_t.mpr (Or.inr rfl)) (by rw [hp_u_s, e])⟩
    have hba : b ≠ a := fun y => by rw [y, hP] at pb; cases pb
    exact z b hb (hp_p_t.mpr (Or.inl pb)) (by rw [hp_u_n _ hba, e])
  · rintro ⟨z1, z2⟩ b hb pb e
    by_cases c : b = a
    · rw [c, hp_u_s] at e
      rw [c]
      exact z2 e.symm
    · rw [hp_u_n _ c] at e
      exact z1 b hb ((hp_p_t.mp pb).resolve_right c) e
theorem CF_add {I I' : zz_I} {n k w u : Nat} {E : Nat → Nat → Bool} {P : Nat → Bool} {g : Nat → Nat} {a h : Nat} (hn : n ≤ 24) (ha : a < n) (hP : P a = false) (hV : CV I n k w E) (hF : CF I n u E P g) (e12 : I' 12 = upd (I 12) h (I 12 h &&& I 11 a)) (e13 : I' 13 = upd (I 13) h (I 13 h + 1)) : CF I' n u E (hp_p P a) (hp_u g a h) := by
  intro h' hh'
  obtain ⟨q1, q2⟩ := hF h' hh'
  rw [e12, e13]
  by_cases c : h' = h
  · subst c
    refine ⟨fun x hx => ?_, ?_⟩
    · rw [pk_us, b_and, hp_f_add ha hP, Bool.and_eq_true, q1 x hx, hV.2.2.2 a ha x (by omega)]
      exact ⟨fun z => ⟨z.1, fun _ => z.2⟩, fun z => ⟨z.1, z.2 rfl⟩⟩
    · rw [pk_us, q2, hp_c_add (by omega) ha hP, if_pos rfl, nI_1]
  · refine ⟨fun x hx => ?_, ?_⟩
    · rw [pk_un c, hp_f_add ha hP, q1 x hx]
      exact ⟨fun z => ⟨z, fun y => absurd y c⟩, fun z => z.1⟩
    · rw [pk_un c, q2, hp_c_add (by omega) ha hP, if_neg c, Nat.add_zero]
theorem hp_p_lt (a : Nat) : hp_p (ltW a) a = ltW (a + 1) := funext fun x => by
  unfold hp_p ltW
  rw [Bool.eq_iff_iff, Bool.or_eq_true, decide_eq_true_eq, decide_eq_true_eq, decide_eq_true_eq]
  omega
theorem hp_u_self (g : Nat → Nat) (a : Nat) : hp_u g a (g a) = g := funext fun x => by
  unfold hp_u
  split
  · rename_i h; rw [h]
  · rfl
theorem ltW_t {a x : Nat} : ltW a x = true ↔ x < a := by unfold ltW; simp
theorem ltW_f {a x : Nat} : ltW a x = false ↔ ¬ x < a := by unfold ltW; simp
section PCover
variable {M : zz_M} {I : zz_I} {J : zz_J} {Q : zz_Q} {n k w u : Nat} {E : Nat → Nat → Bool} {P : Nat → Bool} {g : Nat → Nat}
theorem sp_X2_add (d : Nat) (hO : OK M) {a h : Nat} (ha : a < 24) (hh : h < 24) (hQ : ∀ I' : zz_I, (∀ c, c ≠ 12 → c ≠ 13 → I' c = I c) → I' 12 = upd (I 12) h (I 12 h &&& I 11 a) → I' 13 = upd (I 13) h (I 13 h + 1) → Q none M I' J) : zz_D mX2_add d [.ref 10, .int (nI a), .int (nI h)] M I J Q := by
  refine zz_D_of rfl (Nat.le_of_ble_eq_true rfl) ?_
  try dsimp only [zz_s1, zz_s2, zz_kill, zz_ent, zz_fl, List.set_cons_zero, List.set_cons_succ, List.getElem?_cons_zero, List.getElem?_cons_succ, Option.toList_some, Option.toList_none, List.cons_append, List.nil_append, List.append_nil, List.length_cons, List.length_nil, List.replicate_succ, List.replicate_zero, Nat.reduceAdd, Nat.reduceSub]
  refine zz_aload_n rfl dX2_add_0 ?_
  refine zz_getr dX2_add_1 fX2_15 (fun _ _ _ _ => rfl) (os_10 hO) (or_10_1 hO) ?_
  refine zz_iload_n rfl dX2_add_4 ?_
  refine zz_dup2 rfl rfl dX2_add_5 ?_
  refine zz_iald dX2_add_6 (os_12 hO) (vp_in_nI hh (by decide)) ?_
  refine zz_aload_n rfl dX2_add_7 ?_
  refine zz_getr dX2_add_8 fX2_9 (fun _ _ _ _ => rfl) (os_10 hO) (or_10_0 hO) ?_
  refine zz_iload_n rfl dX2_add_11 ?_
  refine zz_iald dX2_add_12 (os_11 hO) (vp_in_nI ha (by decide)) ?_
  refine zz_iand dX2_add_13 ?_
  refine zz_iast dX2_add_14 (os_12 hO) (vp_in_nI hh (by decide)) ?_
  refine zz_aload_n rfl dX2_add_15 ?_
  refine zz_getr dX2_add_16 fX2_18 (fun _ _ _ _ => rfl) (os_10 hO) (or_10_2 hO) ?_
  refine zz_iload_n rfl dX2_add_19 ?_
  refine zz_dup2 rfl rfl dX2_add_20 ?_
  refine zz_iald dX2_add_21 (os_13 hO) (vp_in_nI hh (by decide)) ?_
  refine zz_iconst (v := 1) (by decide) dX2_add_22 ?_
  refine zz_iadd dX2_add_23 ?_
  refine zz_iast dX2_add_24 (os_13 hO) (vp_in_nI hh (by decide)) ?_
  refine zz_return dX2_add_25 rfl ?_
  rw [nI_clamp (show h < 2 ^ 31 by omega), nI_clamp (show a < 2 ^ 31 by omega), zz_ui_ne _ _ _ (by decide)]
  refine hQ _ (fun c c1 c2 => ?_) ?_ ?_
  · rw [zz_ui_ne _ _ _ c2, zz_ui_ne _ _ _ c1]
  · rw [zz_ui_ne _ _ _ (by decide), zz_ui_at]
  · rw [zz_ui_at, zz_ui_ne _ _ _ (by decide)]
theorem sp_layRow (d : Nat) (hO : OK M) {a : Nat} (hn : n ≤ 24) (ha : a ≤ n) (hV : CV I n k w E) (hg : ∀ b, b < a → I 24 b = nI (g b) ∧ g b < n) (hQ : ∀ I' : zz_I, (∀ c, c ≠ 12 → c ≠ 13 → I' c = I c) → CF I' n n E (ltW a) g → Q none M I' J) : zz_D mX2_layRow (d + 1) [.ref 10, .ref 24, .int (nI a)] M I J Q := by
  refine zz_D_of rfl (Nat.le_of_ble_eq_true rfl) ?_
  try dsimp only [zz_s1, zz_s2, zz_kill, zz_ent, zz_fl, List.set_cons_zero, List.set_cons_succ, List.getElem?_cons_zero, List.getElem?_cons_succ, Option.toList_some, Option.toList_none, List.cons_append, List.nil_append, List.append_nil, List.length_cons, List.length_nil, List.replicate_succ, List.replicate_zero, Nat.reduceAdd, Nat.reduceSub]
  refine zz_iconst (v := 0) (by decide) dX2_layRow_0 ?_
  refine zz_istore_n dX2_layRow_1 (by decide) ?_
  try dsimp only [zz_s1, zz_s2, zz_kill, zz_ent, zz_fl, List.set_cons_zero, List.set_cons_succ, List.getElem?_cons_zero, List.getElem?_cons_succ, Option.toList_some, Option.toList_none, List.cons_append, List.nil_append, List.append_nil, List.length_cons, List.length_nil, List.replicate_succ, List.replicate_zero, Nat.reduceAdd, Nat.reduceSub]
  have l2 : ∀ (q b : Nat) (Ix : zz_I), b + q = a → (∀ c, c ≠ 12 → c ≠ 13 → Ix c = I c) → CF Ix n n E (ltW b) g → zz_G mX2_layRow (d + 1) 0 32 [some (.ref 10), some (.ref 24), some (.int (nI a)), some (.int (nI b))] [] M Ix J Q := by
    intro q
    induction q with
    | zero =>
      intro b Ix hb f1 f2
      have e : b = a := by omega
      subst e
      refine zz_iload_n rfl dX2_layRow_32 ?_
      refine zz_iload_n rfl dX2_layRow_33 ?_
      try dsimp only [zz_s1, zz_s2, zz_kill, zz_ent, zz_fl, List.set_cons_zero, List.set_cons_succ, List.getElem?_cons_zero, List.getElem?_cons_succ, Option.toList_some, Option.toList_none, List.cons_append, List.nil_append, List.append_nil, List.length_cons, List.length_nil, List.replicate_succ, List.replicate_zero, Nat.reduceAdd, Nat.reduceSub]
      refine zz_icmp_ge (tgt := 51) dX2_layRow_34 (by decide) (fun h => ?_) (fun h => ?_)
      · refine zz_return dX2_layRow_51 rfl ?_
        exact hQ Ix f1 f2
      · exact absurd (nI_le (Nat.le_refl b) (by omega)) h
    | succ q ih =>
      intro b Ix hb f1 f2
      obtain ⟨g1, g2⟩ := hg b (by omega)
      refine zz_iload_n rfl dX2_layRow_32 ?_
      refine zz_iload_n rfl dX2_layRow_33 ?_
      try dsimp only [zz_s1, zz_s2, zz_kill, zz_ent, zz_fl, List.set_cons_zero, List.set_cons_succ, List.getElem?_cons_zero, List.getElem?_cons_succ, Option.toList_some, Option.toList_none, List.cons_append, List.nil_append, List.append_nil, List.length_cons, List.length_nil, List.replicate_succ, List.replicate_zero, Nat.reduceAdd, Nat.reduceSub]
      refine zz_icmp_ge (tgt := 51) dX2_layRow_34 (by decide) (fun h => ?_) (fun h => ?_)
      · exact absurd h (nI_ge (by omega) (by omega))
      · skip
        refine zz_aload_n rfl dX2_layRow_37 ?_
        refine zz_iload_n rfl dX2_layRow_38 ?_
        refine zz_aload_n rfl dX2_layRow_39 ?_
        refine zz_iload_n rfl dX2_layRow_40 ?_
        refine zz_iald dX2_layRow_41 (os_24 hO) (vp_in_nI (show b < 24 by omega) (by decide)) ?_
        try dsimp only [zz_s1, zz_s2, zz_kill, zz_ent, zz_fl, List.set_cons_zero, List.set_cons_succ, List.getElem?_cons_zero, List.getElem?_cons_succ, Option.toList_some, Option.toList_none, List.cons_append, List.nil_append, List.append_nil, List.length_cons, List.length_nil, List.replicate_succ, List.replicate_zero, Nat.reduceAdd, Nat.reduceSub]
        rw [nI_clamp (show b < 2 ^ 31 by omega), f1 24 (by decide) (by decide), g1]
        refine zz_cV2 dX2_layRow_42 lX2_49 rfl (os_10 hO) rfl rfl (Nat.le_of_ble_eq_true rfl) (Nat.le_of_ble_eq_true rfl) ?_
        refine sp_X2_add d hO (show b < 24 by omega) (show g b < 24 by omega) (fun Iy k1 k2 k3 => ?_)
        try dsimp only [zz_s1, zz_s2, zz_kill, zz_ent, zz_fl, List.set_cons_zero, List.set_cons_succ, List.getElem?_cons_zero, List.getElem?_cons_succ, Option.toList_some, Option.toList_none, List.cons_append, List.nil_append, List.append_nil, List.length_cons, List.length_nil, List.replicate_succ, List.replicate_zero, Nat.reduceAdd, Nat.reduceSub]
        refine zz_iinc dX2_layRow_45 rfl (congrArg (HAdd.hAdd _) (show Int32.ofInt 1 = 1 by decide)) (by decide) ?_
        refine zz_goto (tgt := 32) dX2_layRow_48 (by decide) ?_
        try dsimp only [zz_s1, zz_s2, zz_kill, zz_ent, zz_fl, List.set_cons_zero, List.set_cons_succ, List.getElem?_cons_zero, List.getElem?_cons_succ, Option.toList_some, Option.toList_none, List.cons_append, List.nil_append, List.append_nil, List.length_cons, List.length_nil, List.replicate_succ, List.replicate_zero, Nat.reduceAdd, Nat.reduceSub]
        rw [nI_1]
        refine ih (b + 1) Iy (by omega) (fun c c1 c2 => (k1 c c1 c2).trans (f1 c c1 c2)) ?_
        have := CF_add (k := k) (w := w) hn (show b < n by omega) (ltW_f.mpr (Nat.lt_irrefl b)) (CV_of f1 hV) f2 k2 k3
        rwa [hp_p_lt, hp_u_self] at this
  have l1 : ∀ (q h : Nat) (Ix : zz_I), h + q = n → (∀ c, c ≠ 12 → c ≠ 13 → Ix c = I c) → (∀ h', h' < h → Ix 12 h' = -1 ∧ Ix 13 h' = 0) → zz_G mX2_layRow (d + 1) 0 2 [some (.ref 10), some (.ref 24), some (.int (nI a)), some (.int (nI h))] [] M Ix J Q := by
    intro q
    induction q with
    | zero =>
      intro h Ix hh f1 f2
      have e : h = n := by omega
      subst e
      refine zz_iload_n rfl dX2_layRow_2 ?_
      refine zz_aload_n rfl dX2_layRow_3 ?_
      refine zz_geti dX2_layRow_4 fX2_21 rfl (os_10 hO) ?_
      try dsimp only [zz_s1, zz_s2, zz_kill, zz_ent, zz_fl, List.set_cons_zero, List.set_cons_succ, List.getElem?_cons_zero, List.getElem?_cons_succ, Option.toList_some, Option.toList_none, List.cons_append, List.nil_append, List.append_nil, List.length_cons, List.length_nil, List.replicate_succ, List.replicate_zero, Nat.reduceAdd, Nat.reduceSub]
      rw [f1 10 (by decide) (by decide), hV.1]
      refine zz_icmp_ge (tgt := 30) dX2_layRow_7 (by decide) (fun q1 => ?_) (fun q1 => ?_)
      · refine zz_iconst (v := 0) (by decide) dX2_layRow_30 ?_
        refine zz_istore_n dX2_layRow_31 (by decide) ?_
        try dsimp only [zz_s1, zz_s2, zz_kill, zz_ent, zz_fl, List.set_cons_zero, List.set_cons_succ, List.getElem?_cons_zero, List.getElem?_cons_succ, Option.toList_some, Option.toList_none, List.cons_append, List.nil_append, List.append_nil, List.length_cons, List.length_nil, List.replicate_succ, List.replicate_zero, Nat.reduceAdd, Nat.reduceSub]
        refine l2 a 0 Ix (by omega) f1 (fun h' hh' => ⟨fun x hx => ?_, ?_⟩)
        · rw [(f2 h' hh').1, b_m1 x (by omega)]
          exact ⟨fun _ b _ pb => absurd (ltW_t.mp pb) (Nat.not_lt_zero b), fun _ => rfl⟩
        · rw [(f2 h' hh').2]
          have : hp_c h (ltW 0) g h' = 0 := fb_ct_zero.mpr (fun x _ => by simp [ltW])
          rw [this]
          rfl
      · exact absurd (nI_le (Nat.le_refl h) (by omega)) q1
    | succ q ih =>
      intro h Ix hh f1 f2
      refine zz_iload_n rfl dX2_layRow_2 ?_
      refine zz_aload_n rfl dX2_layRow_3 ?_
      refine zz_geti dX2_layRow_4 fX2_21 rfl (os_10 hO) ?_
      try dsimp only [zz_s1, zz_s2, zz_kill, zz_ent, zz_fl, List.set_cons_zero, List.set_cons_succ, List.getElem?_cons_zero, List.getElem?_cons_succ, Option.toList_some, Option.toList_none, List.cons_append, List.nil_append, List.append_nil, List.length_cons, List.length_nil, List.replicate_succ, List.replicate_zero, Nat.reduceAdd, Nat.reduceSub]
      rw [f1 10 (by decide) (by decide), hV.1]
      refine zz_icmp_ge (tgt := 30) dX2_layRow_7 (by decide) (fun q1 => ?_) (fun q1 => ?_)
      · exact absurd q1 (nI_ge (by omega) (by omega))
      · skip
        refine zz_aload_n rfl dX2_layRow_10 ?_
        refine zz_getr dX2_layRow_11 fX2_15 (fun _ _ _ _ => rfl) (os_10 hO) (or_10_1 hO) ?_
        refine zz_iload_n rfl dX2_layRow_14 ?_
        refine zz_iconst (v := (-1)) (by decide) dX2_layRow_15 ?_
        refine zz_iast dX2_layRow_16 (os_12 hO) (vp_in_nI (show h < 24 by omega) (by decide)) ?_
        refine zz_aload_n rfl dX2_layRow_17 ?_
        refine zz_getr dX2_layRow_18 fX2_18 (fun _ _ _ _ => rfl) (os_10 hO) (or_10_2 hO) ?_
        refine zz_iload_n rfl dX2_layRow_21 ?_
        refine zz_iconst (v := 0) (by decide) dX2_layRow_22 ?_
        refine zz_iast dX2_layRow_23 (os_13 hO) (vp_in_nI (show h < 24 by omega) (by decide)) ?_
        refine zz_iinc dX2_layRow_24 rfl (congrArg (HAdd.hAdd _) (show Int32.ofInt 1 = 1 by decide)) (by decide) ?_
        refine zz_goto (tgt := 2) dX2_layRow_27 (by decide) ?_
        try dsimp only [zz_s1, zz_s2, zz_kill, zz_ent, zz_fl, List.set_cons_zero, List.set_cons_succ, List.getElem?_cons_zero, List.getElem?_cons_succ, Option.toList_some, Option.toList_none, List.cons_append, List.nil_append, List.append_nil, List.length_cons, List.length_nil, List.replicate_succ, List.replicate_zero, Nat.reduceAdd, Nat.reduceSub]
        rw [nI_1, nI_clamp (show h < 2 ^ 31 by omega)]
        refine ih (h + 1) _ (by omega) (fun c c1 c2 => ?_) (fun h' hh' => ?_)
        · rw [zz_ui_ne _ _ _ c2, zz_ui_ne _ _ _ c1]; exact f1 c c1 c2
        · rw [zz_ui_ne _ _ _ (by decide), zz_ui_at, zz_ui_at, zz_ui_ne _ _ _ (by decide)]
          by_cases e : h' = h
          · rw [e, pk_us, pk_us]; exact ⟨rfl, rfl⟩
          · rw [pk_un e, pk_un e]; exact f2 h' (by omega)
  exact l1 n 0 I (by omega) (fun _ _ _ => rfl) (fun h' hh' => by omega)
theorem sp_loneliest (d : Nat) (hO : OK M) {th left : Int32} (hn : n ≤ 24) (h3 : I 10 3 = nI n) (hl : ∀ x, bt left x = true → x < 24) (hex : ∃ x, x < n ∧ bt th x = true) (hQ : ∀ v, v < n → bt th v = true → Q (some (.int (nI v))) M I J) : zz_D mX2_loneliest (d + 1) [.ref 10, .int th, .int left] M I J Q := by
  refine zz_D_of rfl (Nat.le_of_ble_eq_true rfl) ?_
  try dsimp only [zz_s1, zz_s2, zz_kill, zz_ent, zz_fl, List.set_cons_zero, List.set_cons_succ, List.getElem?_cons_zero, List.getElem?_cons_succ, Option.toList_some, Option.toList_none, List.cons_append, List.nil_append, List.append_nil, List.length_cons, List.length_nil, List.replicate_succ, List.replicate_zero, Nat.reduceAdd, Nat.reduceSub]
  refine zz_iconst (v := 0) (by decide) dX2_loneliest_0 ?_
  refine zz_istore_n dX2_loneliest_1 (by decide) ?_
  refine zz_bipush (v := 25) (by decide) dX2_loneliest_2 ?_
  refine zz_istore dX2_loneliest_4 (by decide) ?_
  refine zz_iconst (v := 0) (by decide) dX2_loneliest_6 ?_
  refine zz_istore dX2_loneliest_7 (by decide) ?_
  try dsimp only [zz_s1, zz_s2, zz_kill, zz_ent, zz_fl, List.set_cons_zero, List.set_cons_succ, List.getElem?_cons_zero, List.getElem?_cons_succ, Option.toList_some, Option.toList_none, List.cons_append, List.nil_append, List.append_nil, List.length_cons, List.length_nil, List.replicate_succ, List.replicate_zero, Nat.reduceAdd, Nat.reduceSub]
  have loop : ∀ (q a v f : Nat) (z6 : Option Value), a + q = n → f ≤ 25 → ((f = 25 ∧ ∀ x, x < a → bt th x = false) ∨ (v < n ∧ bt th v = true)) → zz_G mX2_loneliest (d + 1) 0 9 [some (.ref 10), some (.int th), some (.int left), some (.int (nI v)), some (.int (nI f)), some (.int (nI a)), z6] [] M I J Q := by
    intro q
    induction q with
    | zero =>
      intro a v f z6 ha hf hi
      have e : a = n := by omega
      subst e
      refine zz_iload rfl dX2_loneliest_9 ?_
      refine zz_aload_n rfl dX2_loneliest_11 ?_
      refine zz_geti dX2_loneliest_12 fX2_21 rfl (os_10 hO) ?_
      try dsimp only [zz_s1, zz_s2, zz_kill, zz_ent, zz_fl, List.set_cons_zero, List.set_cons_succ, List.getElem?_cons_zero, List.getElem?_cons_succ, Option.toList_some, Option.toList_none, List.cons_append, List.nil_append, List.append_nil, List.length_cons, List.length_nil, List.replicate_succ, List.replicate_zero, Nat.reduceAdd, Nat.reduceSub]
      rw [h3]
      refine zz_icmp_ge (tgt := 61) dX2_loneliest_15 (by decide) (fun h => ?_) (fun h => ?_)
      · refine zz_iload_n rfl dX2_loneliest_61 ?_
        refine zz_ireturn dX2_loneliest_62 rfl (by first | rfl | decide | assumption) ?_
        rcases hi with z | z
        · obtain ⟨x, x1, x2⟩ := hex
          rw [z.2 x x1] at x2; cases x2
        · exact hQ v z.1 z.2
      · exact absurd (nI_le (Nat.le_refl a) (by omega)) h
    | succ q ih =>
      intro a v f z6 ha hf hi
      have eb : (jv_ushr th (nI a) &&& 1 = 0) ↔ bt th a = false := by
        have := bt1_iff th (show a < 32 by omega)
        unfold bt1 at this
        cases c : bt th a with
        | false => rw [c] at this; exact ⟨fun _ => rfl, fun _ => Classical.byContradiction fun z => by have := this.mp z; cases this⟩
        | true => rw [c] at this; exact ⟨fun z => absurd z (this.mpr rfl), fun z => by cases z⟩
      refine zz_iload rfl dX2_loneliest_9 ?_
      refine zz_aload_n rfl dX2_loneliest_11 ?_
      refine zz_geti dX2_loneliest_12 fX2_21 rfl (os_10 hO) ?_
      try dsimp only [zz_s1, zz_s2, zz_kill, zz_ent, zz_fl, List.set_cons_zero, List.set_cons_succ, List.getElem?_cons_zero, List.getElem?_cons_succ, Option.toList_some, Option.toList_none, List.cons_append, List.nil_append, List.append_nil, List.length_cons, List.length_nil, List.replicate_succ, List.replicate_zero, Nat.reduceAdd, Nat.reduceSub]
      rw [h3]
      refine zz_icmp_ge (tgt := 61) dX2_loneliest_15 (by decide) (fun h => ?_) (fun h => ?_)
      · exact absurd h (nI_ge (by omega) (by omega))
      · skip
        refine zz_iload_n rfl dX2_loneliest_18 ?_
        refine zz_iload rfl dX2_loneliest_19 ?_
        refine zz_iushr dX2_loneliest_21 ?_
        refine zz_iconst (v := 1) (by decide) dX2_loneliest_22 ?_
        refine zz_iand dX2_loneliest_23 ?_
        try dsimp only [zz_s1, zz_s2, zz_kill, zz_ent, zz_fl, List.set_cons_zero, List.set_cons_succ, List.getElem?_cons_zero, List.getElem?_cons_succ, Option.toList_some, Option.toList_none, List.cons_append, List.nil_append, List.append_nil, List.length_cons, List.length_nil, List.replicate_succ, List.replicate_zero, Nat.reduceAdd, Nat.reduceSub]
        refine zz_if_eq (tgt := 55) dX2_loneliest_24 (by decide) (fun h2 => ?_) (fun h2 => ?_)
        · have hb := eb.mp h2
          refine zz_iinc dX2_loneliest_55 rfl (congrArg (HAdd.hAdd _) (show Int32.ofInt 1 = 1 by decide)) (by decide) ?_
          refine zz_goto (tgt := 9) dX2_loneliest_58 (by decide) ?_
          try dsimp only [zz_s1, zz_s2, zz_kill, zz_ent, zz_fl, List.set_cons_zero, List.set_cons_succ, List.getElem?_cons_zero, List.getElem?_cons_succ, Option.toList_some, Option.toList_none, List.cons_append, List.nil_append, List.append_nil, List.length_cons, List.length_nil, List.replicate_succ, List.replicate_zero, Nat.reduceAdd, Nat.reduceSub]
          rw [nI_1]
          refine ih (a + 1) v f _ (by omega) hf ?_
          rcases hi with z | z
          · refine Or.inl ⟨z.1, fun x hx => ?_⟩
            by_cases e : x = a
            · rw [e]; exact hb
            · exact z.2 x (by omega)
          · exact Or.inr z
        · skip
          have hb : bt th a = true := by
            cases c : bt th a with
            | true => rfl
            | false => exact absurd (eb.mpr c) h2
          refine zz_aload_n rfl dX2_loneliest_27 ?_
          refine zz_getr dX2_loneliest_28 fX2_9 (fun _ _ _ _ => rfl) (os_10 hO) (or_10_0 hO) ?_
          refine zz_iload rfl dX2_loneliest_31 ?_
          refine zz_iald dX2_loneliest_33 (os_11 hO) (vp_in_nI (show a < 24 by omega) (by decide)) ?_
          refine zz_iload_n rfl dX2_loneliest_34 ?_
          refine zz_iand dX2_loneliest_35 ?_
          try dsimp only [zz_s1, zz_s2, zz_kill, zz_ent, zz_fl, List.set_cons_zero, List.set_cons_succ, List.getElem?_cons_zero, List.getElem?_cons_succ, Option.toList_some, Option.toList_none, List.cons_append, List.nil_append, List.append_nil, List.length_cons, List.length_nil, List.replicate_succ, List.replicate_zero, Nat.reduceAdd, Nat.reduceSub]
          rw [nI_clamp (show a < 2 ^ 31 by omega)]
          refine zz_cS1 dX2_loneliest_36 lX2_60 rfl (Nat.le_of_ble_eq_true rfl) (Nat.le_of_ble_eq_true rfl) ?_
          refine sp_bitCountI d ?_
          try dsimp only [zz_s1, zz_s2, zz_kill, zz_ent, zz_fl, List.set_cons_zero, List.set_cons_succ, List.getElem?_cons_zero, List.getElem?_cons_succ, Option.toList_some, Option.toList_none, List.cons_append, List.nil_append, List.append_nil, List.length_cons, List.length_nil, List.replicate_succ, List.replicate_zero, Nat.reduceAdd, Nat.reduceSub]
          have hs : fb_ct (bt (I 11 a &&& left)) 32 ≤ 24 := ct24 (fun x hx => by
            rw [b_and, Bool.and_eq_true] at hx
            exact hl x hx.2)
          generalize fb_ct (bt (I 11 a &&& left)) 32 = s at hs
          refine zz_istore dX2_loneliest_39 (by decide) ?_
          refine zz_iload rfl dX2_loneliest_41 ?_
          refine zz_iload rfl dX2_loneliest_43 ?_
          try dsimp only [zz_s1, zz_s2, zz_kill, zz_ent, zz_fl, List.set_cons_zero, List.set_cons_succ, List.getElem?_cons_zero, List.getElem?_cons_succ, Option.toList_some, Option.toList_none, List.cons_append, List.nil_append, List.append_nil, List.length_cons, List.length_nil, List.replicate_succ, List.replicate_zero, Nat.reduceAdd, Nat.reduceSub]
          refine zz_icmp_ge (tgt := 55) dX2_loneliest_45 (by decide) (fun h4 => ?_) (fun h4 => ?_)
          · refine zz_iinc dX2_loneliest_55 rfl (congrArg (HAdd.hAdd _) (show Int32.ofInt 1 = 1 by decide)) (by decide) ?_
            refine zz_goto (tgt := 9) dX2_loneliest_58 (by decide) ?_
            try dsimp only [zz_s1, zz_s2, zz_kill, zz_ent, zz_fl, List.set_cons_zero, List.set_cons_succ, List.getElem?_cons_zero, List.getElem?_cons_succ, Option.toList_some, Option.toList_none, List.cons_append, List.nil_append, List.append_nil, List.length_cons, List.length_nil, List.replicate_succ, List.replicate_zero, Nat.reduceAdd, Nat.reduceSub]
            rw [nI_1]
            refine ih (a + 1) v f _ (by omega) hf ?_
            rcases hi with z | z
            · exact absurd h4 (nI_ge (by omega) (by omega))
            · exact Or.inr z
          · skip
            refine zz_iload rfl dX2_loneliest_48 ?_
            refine zz_istore dX2_loneliest_50 (by decide) ?_
            refine zz_iload rfl dX2_loneliest_52 ?_
            refine zz_istore_n dX2_loneliest_54 (by decide) ?_
            refine zz_iinc dX2_loneliest_55 rfl (congrArg (HAdd.hAdd _) (show Int32.ofInt 1 = 1 by decide)) (by decide) ?_
            refine zz_goto (tgt := 9) dX2_loneliest_58 (by decide) ?_
            try dsimp only [zz_s1, zz_s2, zz_kill, zz_ent, zz_fl, List.set_cons_zero, List.set_cons_succ, List.getElem?_cons_zero, List.getElem?_cons_succ, Option.toList_some, Option.toList_none, List.cons_append, List.nil_append, List.append_nil, List.length_cons, List.length_nil, List.replicate_succ, List.replicate_zero, Nat.reduceAdd, Nat.reduceSub]
            rw [nI_1]
            exact ih (a + 1) a s _ (by omega) (by omega) (Or.inr ⟨by omega, hb⟩)
  exact loop n 0 0 25 _ (by omega) (by omega) (Or.inl ⟨rfl, fun x hx => by omega⟩)
theorem sp_hasRoom (d : Nat) (hO : OK M) {left : Int32} (hn : n ≤ 24) (hk : k ≤ 24) (hw : w ≤ 24) (hV : CV I n k w E) (hF : CF I n u E P g) (hW : hp_w n E u P g) (hu : u ≤ k) (hb : hp_b n E w) (hL : ∀ x, bt left x = true ↔ x < n ∧ P x = false) (hQ : ∀ r : Int32, r = 1 ∨ (r = 0 ∧ ¬ hp_x n E k P g) → Q (some (.int r)) M I J) : zz_D mX2_hasRoom (d + 1) [.ref 10, .int left, .int (nI u)] M I J Q := by
  have hr := fun hx => hp_room (F := fun h => fb_ct (bt (I 12 h &&& left)) 32) (L := bt left) (by omega) hW hu hb hL (fun h hh Z hZ => fb_ct_sub (fun x _ hx => by
    obtain ⟨z1, z2⟩ := hZ x hx
    rw [b_and, Bool.and_eq_true]
    exact ⟨((hF h hh).1 x ((hL x).mp z1).1).mpr z2, z1⟩)) hx
  have hm : (k - u) * w ≤ 24 * 24 := Nat.mul_le_mul (by omega) hw
  have hs : ∀ h, h ≤ u → fb_sm (fun h => min (w - hp_c n P g h) (fb_ct (bt (I 12 h &&& left)) 32)) h ≤ h * 24 := fun h _ => fb_sm_bound (fun j _ => by omega)
  have hcl : fb_ct (bt left) 32 ≤ 24 := ct24 (fun x hx => by have := ((hL x).mp hx).1; omega)
  refine zz_D_of rfl (Nat.le_of_ble_eq_true rfl) ?_
  try dsimp only [zz_s1, zz_s2, zz_kill, zz_ent, zz_fl, List.set_cons_zero, List.set_cons_succ, List.getElem?_cons_zero, List.getElem?_cons_succ, Option.toList_some, Option.toList_none, List.cons_append, List.nil_append, List.append_nil, List.length_cons, List.length_nil, List.replicate_succ, List.replicate_zero, Nat.reduceAdd, Nat.reduceSub]
  refine zz_aload_n rfl dX2_hasRoom_0 ?_
  refine zz_geti dX2_hasRoom_1 fX2_25 rfl (os_10 hO) ?_
  refine zz_iload_n rfl dX2_hasRoom_4 ?_
  refine zz_isub dX2_hasRoom_5 ?_
  refine zz_aload_n rfl dX2_hasRoom_6 ?_
  refine zz_geti dX2_hasRoom_7 fX2_28 rfl (os_10 hO) ?_
  refine zz_imul dX2_hasRoom_10 ?_
  refine zz_istore_n dX2_hasRoom_11 (by decide) ?_
  refine zz_iconst (v := 0) (by decide) dX2_hasRoom_12 ?_
  refine zz_istore dX2_hasRoom_13 (by decide) ?_
  try dsimp only [zz_s1, zz_s2, zz_kill, zz_ent, zz_fl, List.set_cons_zero, List.set_cons_succ, List.getElem?_cons_zero, List.getElem?_cons_succ, Option.toList_some, Option.toList_none, List.cons_append, List.nil_append, List.append_nil, List.length_cons, List.length_nil, List.replicate_succ, List.replicate_zero, Nat.reduceAdd, Nat.reduceSub]
  rw [hV.2.1, hV.2.2.1, pk_sub hu, pk_mul]
  have loop : ∀ (q h : Nat), h + q = u → zz_G mX2_hasRoom (d + 1) 0 15 [some (.ref 10), some (.int left), some (.int (nI u)), some (.int (nI ((k - u) * w + fb_sm (fun h => min (w - hp_c n P g h) (fb_ct (bt (I 12 h &&& left)) 32)) h))), some (.int (nI h))] [] M I J Q := by
    intro q
    induction q with
    | zero =>
      intro h hh
      have e : h = u := by omega
      subst e
      have hs1 := hs h (Nat.le_refl _)
      refine zz_iload rfl dX2_hasRoom_15 ?_
      refine zz_iload_n rfl dX2_hasRoom_17 ?_
      try dsimp only [zz_s1, zz_s2, zz_kill, zz_ent, zz_fl, List.set_cons_zero, List.set_cons_succ, List.getElem?_cons_zero, List.getElem?_cons_succ, Option.toList_some, Option.toList_none, List.cons_append, List.nil_append, List.append_nil, List.length_cons, List.length_nil, List.replicate_succ, List.replicate_zero, Nat.reduceAdd, Nat.reduceSub]
      refine zz_icmp_ge (tgt := 57) dX2_hasRoom_18 (by decide) (fun q1 => ?_) (fun q1 => ?_)
      · refine zz_iload_n rfl dX2_hasRoom_57 ?_
        refine zz_iload_n rfl dX2_hasRoom_58 ?_
        try dsimp only [zz_s1, zz_s2, zz_kill, zz_ent, zz_fl, List.set_cons_zero, List.set_cons_succ, List.getElem?_cons_zero, List.getElem?_cons_succ, Option.toList_some, Option.toList_none, List.cons_append, List.nil_append, List.append_nil, List.length_cons, List.length_nil, List.replicate_succ, List.replicate_zero, Nat.reduceAdd, Nat.reduceSub]
        refine zz_cS1 dX2_hasRoom_59 lX2_60 rfl (Nat.le_of_ble_eq_true rfl) (Nat.le_of_ble_eq_true rfl) ?_
        refine sp_bitCountI d ?_
        try dsimp only [zz_s1, zz_s2, zz_kill, zz_ent, zz_fl, List.set_cons_zero, List.set_cons_succ, List.getElem?_cons_zero, List.getElem?_cons_succ, Option.toList_some, Option.toList_none, List.cons_append, List.nil_append, List.append_nil, List.length_cons, List.length_nil, List.replicate_succ, List.replicate_zero, Nat.reduceAdd, Nat.reduceSub]
        refine zz_icmp_lt (tgt := 69) dX2_hasRoom_62 (by decide) (fun q2 => ?_) (fun q2 => ?_)
        · refine zz_iconst (v := 0) (by decide) dX2_hasRoom_69 ?_
          refine zz_ireturn dX2_hasRoom_70 rfl (by first | rfl | decide | assumption) ?_
          refine hQ 0 (Or.inr ⟨rfl, fun hx => ?_⟩)
          have := hr hx
          have q3 := (nI_ltI (by omega) (by omega)).mp q2
          omega
        · skip
          refine zz_iconst (v := 1) (by decide) dX2_hasRoom_65 ?_
          refine zz_goto (tgt := 70) dX2_hasRoom_66 (by decide) ?_
          refine zz_ireturn dX2_hasRoom_70 rfl (by first | rfl | decide | assumption) ?_
          exact hQ 1 (Or.inl rfl)
      · exact absurd (nI_le (Nat.le_refl h) (by omega)) q1
    | succ q ih =>
      intro h hh
      obtain ⟨f1, f2⟩ := hF h (by omega)
      have hld := hp_held (h := h) hW hb
      have hcc : fb_ct (bt (I 12 h &&& left)) 32 ≤ 32 := fb_ct_le _ _
      refine zz_iload rfl dX2_hasRoom_15 ?_
      refine zz_iload_n rfl dX2_hasRoom_17 ?_
      try dsimp only [zz_s1, zz_s2, zz_kill, zz_ent, zz_fl, List.set_cons_zero, List.set_cons_succ, List.getElem?_cons_zero, List.getElem?_cons_succ, Option.toList_some, Option.toList_none, List.cons_append, List.nil_append, List.append_nil, List.length_cons, List.length_nil, List.replicate_succ, List.replicate_zero, Nat.reduceAdd, Nat.reduceSub]
      refine zz_icmp_ge (tgt := 57) dX2_hasRoom_18 (by decide) (fun q1 => ?_) (fun q1 => ?_)
      · exact absurd q1 (nI_ge (by omega) (by omega))
      · skip
        refine zz_iload_n rfl dX2_hasRoom_21 ?_
        refine zz_aload_n rfl dX2_hasRoom_22 ?_
        refine zz_geti dX2_hasRoom_23 fX2_28 rfl (os_10 hO) ?_
        refine zz_aload_n rfl dX2_hasRoom_26 ?_
        refine zz_getr dX2_hasRoom_27 fX2_18 (fun _ _ _ _ => rfl) (os_10 hO) (or_10_2 hO) ?_
        refine zz_iload rfl dX2_hasRoom_30 ?_
        refine zz_iald dX2_hasRoom_32 (os_13 hO) (vp_in_nI (show h < 24 by omega) (by decide)) ?_
        refine zz_isub dX2_hasRoom_33 ?_
        refine zz_aload_n rfl dX2_hasRoom_34 ?_
        refine zz_getr dX2_hasRoom_35 fX2_15 (fun _ _ _ _ => rfl) (os_10 hO) (or_10_1 hO) ?_
        refine zz_iload rfl dX2_hasRoom_38 ?_
        refine zz_iald dX2_hasRoom_40 (os_12 hO) (vp_in_nI (show h < 24 by omega) (by decide)) ?_
        refine zz_iload_n rfl dX2_hasRoom_41 ?_
        refine zz_iand dX2_hasRoom_42 ?_
        try dsimp only [zz_s1, zz_s2, zz_kill, zz_ent, zz_fl, List.set_cons_zero, List.set_cons_succ, List.getElem?_cons_zero, List.getElem?_cons_succ, Option.toList_some, Option.toList_none, List.cons_append, List.nil_append, List.append_nil, List.length_cons, List.length_nil, List.replicate_succ, List.replicate_zero, Nat.reduceAdd, Nat.reduceSub]
        rw [nI_clamp (show h < 2 ^ 31 by omega), f2, hV.2.2.1, pk_sub hld]
        refine zz_cS1 dX2_hasRoom_43 lX2_60 rfl (Nat.le_of_ble_eq_true rfl) (Nat.le_of_ble_eq_true rfl) ?_
        refine sp_bitCountI d ?_
        try dsimp only [zz_s1, zz_s2, zz_kill, zz_ent, zz_fl, List.set_cons_zero, List.set_cons_succ, List.getElem?_cons_zero, List.getElem?_cons_succ, Option.toList_some, Option.toList_none, List.cons_append, List.nil_append, List.append_nil, List.length_cons, List.length_nil, List.replicate_succ, List.replicate_zero, Nat.reduceAdd, Nat.reduceSub]
        refine zz_mmin dX2_hasRoom_46 lX2_66 (Nat.le_of_ble_eq_true rfl) ?_
        try dsimp only [zz_s1, zz_s2, zz_kill, zz_ent, zz_fl, List.set_cons_zero, List.set_cons_succ, List.getElem?_cons_zero, List.getElem?_cons_succ, Option.toList_some, Option.toList_none, List.cons_append, List.nil_append, List.append_nil, List.length_cons, List.length_nil, List.replicate_succ, List.replicate_zero, Nat.reduceAdd, Nat.reduceSub]
        rw [nI_min _ _ (by omega) (by omega)]
        refine zz_iadd dX2_hasRoom_49 ?_
        refine zz_istore_n dX2_hasRoom_50 (by decide) ?_
        refine zz_iinc dX2_hasRoom_51 rfl (congrArg (HAdd.hAdd _) (show Int32.ofInt 1 = 1 by decide)) (by decide) ?_
        refine zz_goto (tgt := 15) dX2_hasRoom_54 (by decide) ?_
        try dsimp only [zz_s1, zz_s2, zz_kill, zz_ent, zz_fl, List.set_cons_zero, List.set_cons_succ, List.getElem?_cons_zero, List.getElem?_cons_succ, Option.toList_some, Option.toList_none, List.cons_append, List.nil_append, List.append_nil, List.length_cons, List.length_nil, List.replicate_succ, List.replicate_zero, Nat.reduceAdd, Nat.reduceSub]
        rw [nI_1, nI_add, Nat.add_assoc]
        exact ih (h + 1) (by omega)
  exact loop u 0 (by omega)
end PCover

