/-! ===== the class's search for heaps: its parts ===== -/
/-- what the search knows: n letters, w at most in a heap, the letters A, who is near (D) -/
def CS (I : zz_I) (n w : Nat) (A : Nat → Bool) (D : Nat → Nat → Prop) : Prop := n ≤ 24 ∧ I 10 6 = nI n ∧ I 10 8 = nI w ∧ w ≤ 24 ∧ (∀ x, A x = true → x < n) ∧ (∀ x, A x = true → ∀ y, A y = true → (bt (I 12 x) y = true ↔ D x y)) ∧ (∀ x y, D x y → D y x) ∧ (∀ x, ¬ D x x) ∧ ∀ C : Nat → Bool, (∀ x, C x = true → A x = true) → kq D C → fb_ct C 32 ≤ w
/-- the sets that failed: t is the try -/
def MO (J : zz_J) (t : Nat) (D : Nat → Nat → Prop) : Prop := J 10 5 = lN t ∧ ∀ s, s < 512 → ∃ u, u < 2 ^ 63 ∧ J 15 s = lN u ∧ u / 4294967296 ≤ t ∧ (u / 4294967296 = t → ∀ m, m ≤ u / 16777216 % 256 → ¬ kc D (fun x => (u % 16777216).testBit x) m)
section Cs
variable {I : zz_I} {n w : Nat} {A : Nat → Bool} {D : Nat → Nat → Prop}
theorem CS.n24 (h : CS I n w A D) : n ≤ 24 := h.1
theorem CS.len (h : CS I n w A D) : I 10 6 = nI n := h.2.1
theorem CS.wid (h : CS I n w A D) : I 10 8 = nI w := h.2.2.1
theorem CS.w24 (h : CS I n w A D) : w ≤ 24 := h.2.2.2.1
theorem CS.lt (h : CS I n w A D) : ∀ x, A x = true → x < n := h.2.2.2.2.1
theorem CS.nr (h : CS I n w A D) : ∀ x, A x = true → ∀ y, A y = true → (bt (I 12 x) y = true ↔ D x y) := h.2.2.2.2.2.1
theorem CS.sy (h : CS I n w A D) : ∀ x y, D x y → D y x := h.2.2.2.2.2.2.1
theorem CS.ir (h : CS I n w A D) : ∀ x, ¬ D x x := h.2.2.2.2.2.2.2.1
theorem CS.wb (h : CS I n w A D) : ∀ C : Nat → Bool, (∀ x, C x = true → A x = true) → kq D C → fb_ct C 32 ≤ w := h.2.2.2.2.2.2.2.2
end Cs
theorem nI24 {x : Int32} (h : ∀ i, bt x i = true → i < 24) : ∃ L, L < 16777216 ∧ x = nI L ∧ ∀ i, bt x i = L.testBit i := by
  obtain ⟨L, h1, h2⟩ := wb_of32 x
  have hb : ∀ i, bt x i = (decide (i < 32) && L.testBit i) := fun i => by rw [h2, bt_nI]
  have hL : L < 2 ^ 24 := Nat.lt_pow_two_of_testBit L (fun i hi => by
    by_cases c : i < 32
    · have := hb i
      cases z : L.testBit i with
      | false => rfl
      | true =>
        rw [z] at this
        have := h i (by rw [this]; simp [c])
        omega
    · exact Nat.testBit_lt_two_pow (Nat.lt_of_lt_of_le h1 (Nat.pow_le_pow_right (by decide) (by omega))))
  refine ⟨L, hL, h2, fun i => ?_⟩
  rw [hb i]
  by_cases c : i < 32
  · simp [c]
  · simp [c]
    exact (Nat.testBit_lt_two_pow (Nat.lt_of_lt_of_le h1 (Nat.pow_le_pow_right (by decide) (by omega))))
theorem ct_hp {X : Nat → Bool} {v i : Nat} (hv : v < i) (h : X v = false) : fb_ct (hp_p X v) i = fb_ct X i + 1 := by
  rw [← ct_rm (A := hp_p X v) hv (hp_p_t.mpr (Or.inr rfl))]
  congr 1
  refine fb_ct_cong (fun x _ => ?_)
  unfold rm hp_p
  by_cases e : x = v
  · rw [e, h]; simp
  · simp [e]
theorem nI_nm {s : Nat} (h : s < 2 ^ 31) : ¬ nI s ≤ (-1 : Int32) := fun z => by
  rw [fa_le, nI_toInt h] at z
  have e : (-1 : Int32).toInt = -1 := by decide
  omega
section PSearch
variable {M : zz_M} {I : zz_I} {J : zz_J} {Q : zz_Q} {n w : Nat} {A : Nat → Bool} {D : Nat → Nat → Prop}
theorem sp_loneliest (d : Nat) (hO : OK M) (hC : CS I n w A D) {th : Int32} (hth : ∀ x, bt th x = true → A x = true) (hex : ¬ th = 0) (hQ : ∀ v, v < n → bt th v = true → Q (some (.int (nI v))) M I J) : zz_D mX2_loneliest (d + 1) [.ref 10, .int th] M I J Q := by
  have h3 := hC.len
  have hn := hC.n24
  refine zz_D_of rfl (Nat.le_of_ble_eq_true rfl) ?_
  try dsimp only [zz_s1, zz_s2, zz_kill, zz_ent, zz_fl, List.set_cons_zero, List.set_cons_succ, List.getElem?_cons_zero, List.getElem?_cons_succ, Option.toList_some, Option.toList_none, List.cons_append, List.nil_append, List.append_nil, List.length_cons, List.length_nil, List.replicate_succ, List.replicate_zero, Nat.reduceAdd, Nat.reduceSub]
  refine zz_iconst (v := 0) (by decide) dX2_loneliest_0 ?_
  refine zz_istore_n dX2_loneliest_1 (by decide) ?_
  refine zz_bipush (v := 25) (by decide) dX2_loneliest_2 ?_
  refine zz_istore_n dX2_loneliest_4 (by decide) ?_
  refine zz_iconst (v := 0) (by decide) dX2_loneliest_5 ?_
  refine zz_istore dX2_loneliest_6 (by decide) ?_
  try dsimp only [zz_s1, zz_s2, zz_kill, zz_ent, zz_fl, List.set_cons_zero, List.set_cons_succ, List.getElem?_cons_zero, List.getElem?_cons_succ, Option.toList_some, Option.toList_none, List.cons_append, List.nil_append, List.append_nil, List.length_cons, List.length_nil, List.replicate_succ, List.replicate_zero, Nat.reduceAdd, Nat.reduceSub]
  have loop : ∀ (q a v f : Nat) (z5 : Option Value), a + q = n → f ≤ 25 → ((f = 25 ∧ ∀ x, x < a → bt th x = false) ∨ (v < n ∧ bt th v = true)) → zz_G mX2_loneliest (d + 1) 0 8 [some (.ref 10), some (.int th), some (.int (nI v)), some (.int (nI f)), some (.int (nI a)), z5] [] M I J Q := by
    intro q
    induction q with
    | zero =>
      intro a v f z5 ha hf hi
      have e : a = n := by omega
      subst e
      refine zz_iload rfl dX2_loneliest_8 ?_
      refine zz_aload_n rfl dX2_loneliest_10 ?_
      refine zz_geti dX2_loneliest_11 fX2_32 rfl (os_10 hO) ?_
      try dsimp only [zz_s1, zz_s2, zz_kill, zz_ent, zz_fl, List.set_cons_zero, List.set_cons_succ, List.getElem?_cons_zero, List.getElem?_cons_succ, Option.toList_some, Option.toList_none, List.cons_append, List.nil_append, List.append_nil, List.length_cons, List.length_nil, List.replicate_succ, List.replicate_zero, Nat.reduceAdd, Nat.reduceSub]
      rw [h3]
      refine zz_icmp_ge (tgt := 58) dX2_loneliest_14 (by decide) (fun h => ?_) (fun h => ?_)
      · refine zz_iload_n rfl dX2_loneliest_58 ?_
        refine zz_ireturn dX2_loneliest_59 rfl (by first | rfl | decide | assumption) ?_
        rcases hi with z | z
        · obtain ⟨x, x1, x2⟩ := bt_nz hex
          rw [z.2 x (hC.lt x (hth x x2))] at x2; cases x2
        · exact hQ v z.1 z.2
      · exact absurd (nI_le (Nat.le_refl a) (by omega)) h
    | succ q ih =>
      intro a v f z5 ha hf hi
      have eb := ubit th (show a < 32 by omega)
      refine zz_iload rfl dX2_loneliest_8 ?_
      refine zz_aload_n rfl dX2_loneliest_10 ?_
      refine zz_geti dX2_loneliest_11 fX2_32 rfl (os_10 hO) ?_
      try dsimp only [zz_s1, zz_s2, zz_kill, zz_ent, zz_fl, List.set_cons_zero, List.set_cons_succ, List.getElem?_cons_zero, List.getElem?_cons_succ, Option.toList_some, Option.toList_none, List.cons_append, List.nil_append, List.append_nil, List.length_cons, List.length_nil, List.replicate_succ, List.replicate_zero, Nat.reduceAdd, Nat.reduceSub]
      rw [h3]
      refine zz_icmp_ge (tgt := 58) dX2_loneliest_14 (by decide) (fun h => ?_) (fun h => ?_)
      · exact absurd h (nI_ge (by omega) (by omega))
      · skip
        refine zz_iload_n rfl dX2_loneliest_17 ?_
        refine zz_iload rfl dX2_loneliest_18 ?_
        refine zz_iushr dX2_loneliest_20 ?_
        refine zz_iconst (v := 1) (by decide) dX2_loneliest_21 ?_
        refine zz_iand dX2_loneliest_22 ?_
        try dsimp only [zz_s1, zz_s2, zz_kill, zz_ent, zz_fl, List.set_cons_zero, List.set_cons_succ, List.getElem?_cons_zero, List.getElem?_cons_succ, Option.toList_some, Option.toList_none, List.cons_append, List.nil_append, List.append_nil, List.length_cons, List.length_nil, List.replicate_succ, List.replicate_zero, Nat.reduceAdd, Nat.reduceSub]
        refine zz_if_eq (tgt := 52) dX2_loneliest_23 (by decide) (fun h2 => ?_) (fun h2 => ?_)
        · have hb := eb.mp h2
          refine zz_iinc dX2_loneliest_52 rfl (congrArg (HAdd.hAdd _) (show Int32.ofInt 1 = 1 by decide)) (by decide) ?_
          refine zz_goto (tgt := 8) dX2_loneliest_55 (by decide) ?_
          try dsimp only [zz_s1, zz_s2, zz_kill, zz_ent, zz_fl, List.set_cons_zero, List.set_cons_succ, List.getElem?_cons_zero, List.getElem?_cons_succ, Option.toList_some, Option.toList_none, List.cons_append, List.nil_append, List.append_nil, List.length_cons, List.length_nil, List.replicate_succ, List.replicate_zero, Nat.reduceAdd, Nat.reduceSub]
          rw [nI_1]
          refine ih (a + 1) v f _ (by omega) hf ?_
          rcases hi with z | z
          · refine Or.inl ⟨z.1, fun x hx => ?_⟩
            by_cases e : x = a
            · rw [e]; exact hb
            · exact z.2 x (by omega)
          · exact Or.inr z
        · skip
          have hb : bt th a = true := ubit_t th (by omega) h2
          refine zz_aload_n rfl dX2_loneliest_26 ?_
          refine zz_getr dX2_loneliest_27 fX2_15 (fun _ _ _ _ => rfl) (os_10 hO) (or_10_1 hO) ?_
          refine zz_iload rfl dX2_loneliest_30 ?_
          refine zz_iald dX2_loneliest_32 (os_12 hO) (vp_in_nI (show a < 24 by omega) (by decide)) ?_
          refine zz_iload_n rfl dX2_loneliest_33 ?_
          refine zz_iand dX2_loneliest_34 ?_
          try dsimp only [zz_s1, zz_s2, zz_kill, zz_ent, zz_fl, List.set_cons_zero, List.set_cons_succ, List.getElem?_cons_zero, List.getElem?_cons_succ, Option.toList_some, Option.toList_none, List.cons_append, List.nil_append, List.append_nil, List.length_cons, List.length_nil, List.replicate_succ, List.replicate_zero, Nat.reduceAdd, Nat.reduceSub]
          rw [nI_clamp (show a < 2 ^ 31 by omega)]
          refine zz_cS1 dX2_loneliest_35 lX2_67 rfl (Nat.le_of_ble_eq_true rfl) (Nat.le_of_ble_eq_true rfl) ?_
          refine sp_bitCountI d ?_
          try dsimp only [zz_s1, zz_s2, zz_kill, zz_ent, zz_fl, List.set_cons_zero, List.set_cons_succ, List.getElem?_cons_zero, List.getElem?_cons_succ, Option.toList_some, Option.toList_none, List.cons_append, List.nil_append, List.append_nil, List.length_cons, List.length_nil, List.replicate_succ, List.replicate_zero, Nat.reduceAdd, Nat.reduceSub]
          have hs : fb_ct (bt (I 12 a &&& th)) 32 ≤ 24 := ct24 (fun x hx => by
            rw [b_and, Bool.and_eq_true] at hx
            have := hC.lt x (hth x hx.2)
            omega)
          generalize fb_ct (bt (I 12 a &&& th)) 32 = s at hs
          refine zz_istore dX2_loneliest_38 (by decide) ?_
          refine zz_iload rfl dX2_loneliest_40 ?_
          refine zz_iload_n rfl dX2_loneliest_42 ?_
          try dsimp only [zz_s1, zz_s2, zz_kill, zz_ent, zz_fl, List.set_cons_zero, List.set_cons_succ, List.getElem?_cons_zero, List.getElem?_cons_succ, Option.toList_some, Option.toList_none, List.cons_append, List.nil_append, List.append_nil, List.length_cons, List.length_nil, List.replicate_succ, List.replicate_zero, Nat.reduceAdd, Nat.reduceSub]
          refine zz_icmp_ge (tgt := 52) dX2_loneliest_43 (by decide) (fun h4 => ?_) (fun h4 => ?_)
          · refine zz_iinc dX2_loneliest_52 rfl (congrArg (HAdd.hAdd _) (show Int32.ofInt 1 = 1 by decide)) (by decide) ?_
            refine zz_goto (tgt := 8) dX2_loneliest_55 (by decide) ?_
            try dsimp only [zz_s1, zz_s2, zz_kill, zz_ent, zz_fl, List.set_cons_zero, List.set_cons_succ, List.getElem?_cons_zero, List.getElem?_cons_succ, Option.toList_some, Option.toList_none, List.cons_append, List.nil_append, List.append_nil, List.length_cons, List.length_nil, List.replicate_succ, List.replicate_zero, Nat.reduceAdd, Nat.reduceSub]
            rw [nI_1]
            refine ih (a + 1) v f _ (by omega) hf ?_
            rcases hi with z | z
            · exact absurd h4 (nI_ge (by omega) (by omega))
            · exact Or.inr z
          · skip
            refine zz_iload rfl dX2_loneliest_46 ?_
            refine zz_istore_n dX2_loneliest_48 (by decide) ?_
            refine zz_iload rfl dX2_loneliest_49 ?_
            refine zz_istore_n dX2_loneliest_51 (by decide) ?_
            refine zz_iinc dX2_loneliest_52 rfl (congrArg (HAdd.hAdd _) (show Int32.ofInt 1 = 1 by decide)) (by decide) ?_
            refine zz_goto (tgt := 8) dX2_loneliest_55 (by decide) ?_
            try dsimp only [zz_s1, zz_s2, zz_kill, zz_ent, zz_fl, List.set_cons_zero, List.set_cons_succ, List.getElem?_cons_zero, List.getElem?_cons_succ, Option.toList_some, Option.toList_none, List.cons_append, List.nil_append, List.append_nil, List.length_cons, List.length_nil, List.replicate_succ, List.replicate_zero, Nat.reduceAdd, Nat.reduceSub]
            rw [nI_1]
            exact ih (a + 1) a s _ (by omega) (by omega) (Or.inr ⟨by omega, hb⟩)
  exact loop n 0 0 25 _ (by omega) (by omega) (Or.inl ⟨rfl, fun x hx => by omega⟩)
theorem sp_mostOpen (d : Nat) (hO : OK M) (hC : CS I n w A D) {th op : Int32} (hth : ∀ x, bt th x = true → A x = true) (hex : ¬ th = 0) (hQ : ∀ v, v < n → bt th v = true → Q (some (.int (nI v))) M I J) : zz_D mX2_mostOpen (d + 1) [.ref 10, .int th, .int op] M I J Q := by
  have h3 := hC.len
  have hn := hC.n24
  refine zz_D_of rfl (Nat.le_of_ble_eq_true rfl) ?_
  try dsimp only [zz_s1, zz_s2, zz_kill, zz_ent, zz_fl, List.set_cons_zero, List.set_cons_succ, List.getElem?_cons_zero, List.getElem?_cons_succ, Option.toList_some, Option.toList_none, List.cons_append, List.nil_append, List.append_nil, List.length_cons, List.length_nil, List.replicate_succ, List.replicate_zero, Nat.reduceAdd, Nat.reduceSub]
  refine zz_iconst (v := 0) (by decide) dX2_mostOpen_0 ?_
  refine zz_istore_n dX2_mostOpen_1 (by decide) ?_
  refine zz_iconst (v := (-1)) (by decide) dX2_mostOpen_2 ?_
  refine zz_istore dX2_mostOpen_3 (by decide) ?_
  refine zz_iconst (v := 0) (by decide) dX2_mostOpen_5 ?_
  refine zz_istore dX2_mostOpen_6 (by decide) ?_
  try dsimp only [zz_s1, zz_s2, zz_kill, zz_ent, zz_fl, List.set_cons_zero, List.set_cons_succ, List.getElem?_cons_zero, List.getElem?_cons_succ, Option.toList_some, Option.toList_none, List.cons_append, List.nil_append, List.append_nil, List.length_cons, List.length_nil, List.replicate_succ, List.replicate_zero, Nat.reduceAdd, Nat.reduceSub]
  have loop : ∀ (q a v : Nat) (ms : Int32) (z6 : Option Value), a + q = n → ((ms = -1 ∧ ∀ x, x < a → bt th x = false) ∨ (v < n ∧ bt th v = true)) → zz_G mX2_mostOpen (d + 1) 0 8 [some (.ref 10), some (.int th), some (.int op), some (.int (nI v)), some (.int ms), some (.int (nI a)), z6] [] M I J Q := by
    intro q
    induction q with
    | zero =>
      intro a v ms z6 ha hi
      have e : a = n := by omega
      subst e
      refine zz_iload rfl dX2_mostOpen_8 ?_
      refine zz_aload_n rfl dX2_mostOpen_10 ?_
      refine zz_geti dX2_mostOpen_11 fX2_32 rfl (os_10 hO) ?_
      try dsimp only [zz_s1, zz_s2, zz_kill, zz_ent, zz_fl, List.set_cons_zero, List.set_cons_succ, List.getElem?_cons_zero, List.getElem?_cons_succ, Option.toList_some, Option.toList_none, List.cons_append, List.nil_append, List.append_nil, List.length_cons, List.length_nil, List.replicate_succ, List.replicate_zero, Nat.reduceAdd, Nat.reduceSub]
      rw [h3]
      refine zz_icmp_ge (tgt := 60) dX2_mostOpen_14 (by decide) (fun h => ?_) (fun h => ?_)
      · refine zz_iload_n rfl dX2_mostOpen_60 ?_
        refine zz_ireturn dX2_mostOpen_61 rfl (by first | rfl | decide | assumption) ?_
        rcases hi with z | z
        · obtain ⟨x, x1, x2⟩ := bt_nz hex
          rw [z.2 x (hC.lt x (hth x x2))] at x2; cases x2
        · exact hQ v z.1 z.2
      · exact absurd (nI_le (Nat.le_refl a) (by omega)) h
    | succ q ih =>
      intro a v ms z6 ha hi
      have eb := ubit th (show a < 32 by omega)
      refine zz_iload rfl dX2_mostOpen_8 ?_
      refine zz_aload_n rfl dX2_mostOpen_10 ?_
      refine zz_geti dX2_mostOpen_11 fX2_32 rfl (os_10 hO) ?_
      try dsimp only [zz_s1, zz_s2, zz_kill, zz_ent, zz_fl, List.set_cons_zero, List.set_cons_succ, List.getElem?_cons_zero, List.getElem?_cons_succ, Option.toList_some, Option.toList_none, List.cons_append, List.nil_append, List.append_nil, List.length_cons, List.length_nil, List.replicate_succ, List.replicate_zero, Nat.reduceAdd, Nat.reduceSub]
      rw [h3]
      refine zz_icmp_ge (tgt := 60) dX2_mostOpen_14 (by decide) (fun h => ?_) (fun h => ?_)
      · exact absurd h (nI_ge (by omega) (by omega))
      · skip
        refine zz_iload_n rfl dX2_mostOpen_17 ?_
        refine zz_iload rfl dX2_mostOpen_18 ?_
        refine zz_iushr dX2_mostOpen_20 ?_
        refine zz_iconst (v := 1) (by decide) dX2_mostOpen_21 ?_
        refine zz_iand dX2_mostOpen_22 ?_
        try dsimp only [zz_s1, zz_s2, zz_kill, zz_ent, zz_fl, List.set_cons_zero, List.set_cons_succ, List.getElem?_cons_zero, List.getElem?_cons_succ, Option.toList_some, Option.toList_none, List.cons_append, List.nil_append, List.append_nil, List.length_cons, List.length_nil, List.replicate_succ, List.replicate_zero, Nat.reduceAdd, Nat.reduceSub]
        refine zz_if_eq (tgt := 54) dX2_mostOpen_23 (by decide) (fun h2 => ?_) (fun h2 => ?_)
        · have hb := eb.mp h2
          refine zz_iinc dX2_mostOpen_54 rfl (congrArg (HAdd.hAdd _) (show Int32.ofInt 1 = 1 by decide)) (by decide) ?_
          refine zz_goto (tgt := 8) dX2_mostOpen_57 (by decide) ?_
          try dsimp only [zz_s1, zz_s2, zz_kill, zz_ent, zz_fl, List.set_cons_zero, List.set_cons_succ, List.getElem?_cons_zero, List.getElem?_cons_succ, Option.toList_some, Option.toList_none, List.cons_append, List.nil_append, List.append_nil, List.length_cons, List.length_nil, List.replicate_succ, List.replicate_zero, Nat.reduceAdd, Nat.reduceSub]
          rw [nI_1]
          refine ih (a + 1) v ms _ (by omega) ?_
          rcases hi with z | z
          · refine Or.inl ⟨z.1, fun x hx => ?_⟩
            by_cases e : x = a
            · rw [e]; exact hb
            · exact z.2 x (by omega)
          · exact Or.inr z
        · skip
          have hb : bt th a = true := ubit_t th (by omega) h2
          refine zz_aload_n rfl dX2_mostOpen_26 ?_
          refine zz_getr dX2_mostOpen_27 fX2_15 (fun _ _ _ _ => rfl) (os_10 hO) (or_10_1 hO) ?_
          refine zz_iload rfl dX2_mostOpen_30 ?_
          refine zz_iald dX2_mostOpen_32 (os_12 hO) (vp_in_nI (show a < 24 by omega) (by decide)) ?_
          refine zz_iload_n rfl dX2_mostOpen_33 ?_
          refine zz_iand dX2_mostOpen_34 ?_
          try dsimp only [zz_s1, zz_s2, zz_kill, zz_ent, zz_fl, List.set_cons_zero, List.set_cons_succ, List.getElem?_cons_zero, List.getElem?_cons_succ, Option.toList_some, Option.toList_none, List.cons_append, List.nil_append, List.append_nil, List.length_cons, List.length_nil, List.replicate_succ, List.replicate_zero, Nat.reduceAdd, Nat.reduceSub]
          rw [nI_clamp (show a < 2 ^ 31 by omega)]
          refine zz_cS1 dX2_mostOpen_35 lX2_67 rfl (Nat.le_of_ble_eq_true rfl) (Nat.le_of_ble_eq_true rfl) ?_
          refine sp_bitCountI d ?_
          try dsimp only [zz_s1, zz_s2, zz_kill, zz_ent, zz_fl, List.set_cons_zero, List.set_cons_succ, List.getElem?_cons_zero, List.getElem?_cons_succ, Option.toList_some, Option.toList_none, List.cons_append, List.nil_append, List.append_nil, List.length_cons, List.length_nil, List.replicate_succ, List.replicate_zero, Nat.reduceAdd, Nat.reduceSub]
          have hs : fb_ct (bt (I 12 a &&& op)) 32 ≤ 32 := fb_ct_le _ _
          generalize fb_ct (bt (I 12 a &&& op)) 32 = s at hs
          refine zz_istore dX2_mostOpen_38 (by decide) ?_
          refine zz_iload rfl dX2_mostOpen_40 ?_
          refine zz_iload rfl dX2_mostOpen_42 ?_
          try dsimp only [zz_s1, zz_s2, zz_kill, zz_ent, zz_fl, List.set_cons_zero, List.set_cons_succ, List.getElem?_cons_zero, List.getElem?_cons_succ, Option.toList_some, Option.toList_none, List.cons_append, List.nil_append, List.append_nil, List.length_cons, List.length_nil, List.replicate_succ, List.replicate_zero, Nat.reduceAdd, Nat.reduceSub]
          refine zz_icmp_le (tgt := 54) dX2_mostOpen_44 (by decide) (fun h4 => ?_) (fun h4 => ?_)
          · refine zz_iinc dX2_mostOpen_54 rfl (congrArg (HAdd.hAdd _) (show Int32.ofInt 1 = 1 by decide)) (by decide) ?_
            refine zz_goto (tgt := 8) dX2_mostOpen_57 (by decide) ?_
            try dsimp only [zz_s1, zz_s2, zz_kill, zz_ent, zz_fl, List.set_cons_zero, List.set_cons_succ, List.getElem?_cons_zero, List.getElem?_cons_succ, Option.toList_some, Option.toList_none, List.cons_append, List.nil_append, List.append_nil, List.length_cons, List.length_nil, List.replicate_succ, List.replicate_zero, Nat.reduceAdd, Nat.reduceSub]
            rw [nI_1]
            refine ih (a + 1) v ms _ (by omega) ?_
            rcases hi with z | z
            · rw [z.1] at h4
              exact absurd h4 (nI_nm (by omega))
            · exact Or.inr z
          · skip
            refine zz_iload rfl dX2_mostOpen_47 ?_
            refine zz_istore dX2_mostOpen_49 (by decide) ?_
            refine zz_iload rfl dX2_mostOpen_51 ?_
            refine zz_istore_n dX2_mostOpen_53 (by decide) ?_
            refine zz_iinc dX2_mostOpen_54 rfl (congrArg (HAdd.hAdd _) (show Int32.ofInt 1 = 1 by decide)) (by decide) ?_
            refine zz_goto (tgt := 8) dX2_mostOpen_57 (by decide) ?_
            try dsimp only [zz_s1, zz_s2, zz_kill, zz_ent, zz_fl, List.set_cons_zero, List.set_cons_succ, List.getElem?_cons_zero, List.getElem?_cons_succ, Option.toList_some, Option.toList_none, List.cons_append, List.nil_append, List.append_nil, List.length_cons, List.length_nil, List.replicate_succ, List.replicate_zero, Nat.reduceAdd, Nat.reduceSub]
            rw [nI_1]
            exact ih (a + 1) a _ _ (by omega) (Or.inr ⟨by omega, hb⟩)
  exact loop n 0 0 _ _ (by omega) (Or.inl ⟨rfl, fun x hx => by omega⟩)
theorem sp_slot (d : Nat) {x : Int32} (hQ : ∀ s, s < 512 → Q (some (.int (nI s))) M I J) : zz_D mX2_slot d [.int x] M I J Q := by
  refine zz_D_of rfl (Nat.le_of_ble_eq_true rfl) ?_
  try dsimp only [zz_s1, zz_s2, zz_kill, zz_ent, zz_fl, List.set_cons_zero, List.set_cons_succ, List.getElem?_cons_zero, List.getElem?_cons_succ, Option.toList_some, Option.toList_none, List.cons_append, List.nil_append, List.append_nil, List.length_cons, List.length_nil, List.replicate_succ, List.replicate_zero, Nat.reduceAdd, Nat.reduceSub]
  refine zz_iload_n rfl dX2_slot_0 ?_
  refine zz_ldc tX2_92 dX2_slot_1 ?_
  refine zz_imul dX2_slot_3 ?_
  refine zz_bipush (v := 23) (by decide) dX2_slot_4 ?_
  refine zz_iushr dX2_slot_6 ?_
  refine zz_sipush (v := 511) (by decide) dX2_slot_7 ?_
  refine zz_iand dX2_slot_10 ?_
  try dsimp only [zz_s1, zz_s2, zz_kill, zz_ent, zz_fl, List.set_cons_zero, List.set_cons_succ, List.getElem?_cons_zero, List.getElem?_cons_succ, Option.toList_some, Option.toList_none, List.cons_append, List.nil_append, List.append_nil, List.length_cons, List.length_nil, List.replicate_succ, List.replicate_zero, Nat.reduceAdd, Nat.reduceSub]
  obtain ⟨s, hs, e⟩ := pk_andE (jv_ushr (x * (-1640531535)) 23) (m := 511) 9 (by decide)
  rw [e]
  refine zz_ireturn dX2_slot_11 rfl (by first | rfl | decide | assumption) ?_
  exact hQ s hs
theorem sp_hasFailed (d : Nat) (hO : OK M) {left : Int32} {m t : Nat} (hm : m ≤ 24) (ht : t < 2 ^ 31) (hM : MO J t D) (hl : ∀ x, bt left x = true → x < 24) (hQ : ∀ r : Int32, (r = 0 ∨ (r = 1 ∧ ¬ kc D (bt left) m)) → Q (some (.int r)) M I J) : zz_D mX2_hasFailed (d + 1) [.ref 10, .int left, .int (nI m)] M I J Q := by
  obtain ⟨L, L1, L2, L3⟩ := nI24 hl
  refine zz_D_of rfl (Nat.le_of_ble_eq_true rfl) ?_
  try dsimp only [zz_s1, zz_s2, zz_kill, zz_ent, zz_fl, List.set_cons_zero, List.set_cons_succ, List.getElem?_cons_zero, List.getElem?_cons_succ, Option.toList_some, Option.toList_none, List.cons_append, List.nil_append, List.append_nil, List.length_cons, List.length_nil, List.replicate_succ, List.replicate_zero, Nat.reduceAdd, Nat.reduceSub]
  refine zz_aload_n rfl dX2_hasFailed_0 ?_
  refine zz_getr dX2_hasFailed_1 fX2_24 (fun _ _ _ _ => rfl) (os_10 hO) (or_10_4 hO) ?_
  refine zz_iload_n rfl dX2_hasFailed_4 ?_
  try dsimp only [zz_s1, zz_s2, zz_kill, zz_ent, zz_fl, List.set_cons_zero, List.set_cons_succ, List.getElem?_cons_zero, List.getElem?_cons_succ, Option.toList_some, Option.toList_none, List.cons_append, List.nil_append, List.append_nil, List.length_cons, List.length_nil, List.replicate_succ, List.replicate_zero, Nat.reduceAdd, Nat.reduceSub]
  refine zz_cS1 dX2_hasFailed_5 lX2_86 rfl (Nat.le_of_ble_eq_true rfl) (Nat.le_of_ble_eq_true rfl) ?_
  refine sp_slot d (fun s hs => ?_)
  try dsimp only [zz_s1, zz_s2, zz_kill, zz_ent, zz_fl, List.set_cons_zero, List.set_cons_succ, List.getElem?_cons_zero, List.getElem?_cons_succ, Option.toList_some, Option.toList_none, List.cons_append, List.nil_append, List.append_nil, List.length_cons, List.length_nil, List.replicate_succ, List.replicate_zero, Nat.reduceAdd, Nat.reduceSub]
  obtain ⟨u, u1, u2, u3, u4⟩ := hM.2 s hs
  refine zz_lald dX2_hasFailed_8 (os_15 hO) (vp_in_nI hs (by decide)) ?_
  refine zz_lstore_n dX2_hasFailed_9 (by decide) ?_
  refine zz_lload_n rfl dX2_hasFailed_10 ?_
  refine zz_bipush (v := 32) (by decide) dX2_hasFailed_11 ?_
  refine zz_lushr dX2_hasFailed_13 ?_
  refine zz_aload_n rfl dX2_hasFailed_14 ?_
  refine zz_getl dX2_hasFailed_15 fX2_28 rfl (os_10 hO) ?_
  refine zz_lcmp dX2_hasFailed_18 ?_
  try dsimp only [zz_s1, zz_s2, zz_kill, zz_ent, zz_fl, List.set_cons_zero, List.set_cons_succ, List.getElem?_cons_zero, List.getElem?_cons_succ, Option.toList_some, Option.toList_none, List.cons_append, List.nil_append, List.append_nil, List.length_cons, List.length_nil, List.replicate_succ, List.replicate_zero, Nat.reduceAdd, Nat.reduceSub]
  rw [nI_clamp (show s < 2 ^ 31 by omega), u2, hM.1]
  refine zz_if_ne (tgt := 51) dX2_hasFailed_19 (by decide) (fun q1 => ?_) (fun q1 => ?_)
  · refine zz_iconst (v := 0) (by decide) dX2_hasFailed_51 ?_
    refine zz_ireturn dX2_hasFailed_52 rfl (by first | rfl | decide | assumption) ?_
    exact hQ 0 (Or.inl rfl)
  rw [cmp_eq, show (32 : Int32) = nI 32 from rfl, ls_lN (by omega) (by decide), fb_lN_inj (by omega) (by omega)] at q1
  refine zz_lload_n rfl dX2_hasFailed_22 ?_
  refine zz_ldc2 tX2_93 dX2_hasFailed_23 ?_
  refine zz_land dX2_hasFailed_26 ?_
  refine zz_iload_n rfl dX2_hasFailed_27 ?_
  refine zz_i2l dX2_hasFailed_28 ?_
  refine zz_lcmp dX2_hasFailed_29 ?_
  try dsimp only [zz_s1, zz_s2, zz_kill, zz_ent, zz_fl, List.set_cons_zero, List.set_cons_succ, List.getElem?_cons_zero, List.getElem?_cons_succ, Option.toList_some, Option.toList_none, List.cons_append, List.nil_append, List.append_nil, List.length_cons, List.length_nil, List.replicate_succ, List.replicate_zero, Nat.reduceAdd, Nat.reduceSub]
  refine zz_if_ne (tgt := 51) dX2_hasFailed_30 (by decide) (fun q2 => ?_) (fun q2 => ?_)
  · refine zz_iconst (v := 0) (by decide) dX2_hasFailed_51 ?_
    refine zz_ireturn dX2_hasFailed_52 rfl (by first | rfl | decide | assumption) ?_
    exact hQ 0 (Or.inl rfl)
  rw [cmp_eq, L2, nI_l (by omega), show (16777215 : Int64) = lN (2 ^ 24 - 1) from rfl, fb_maskL, fb_lN_inj (by omega) (by omega)] at q2
  refine zz_lload_n rfl dX2_hasFailed_33 ?_
  refine zz_bipush (v := 24) (by decide) dX2_hasFailed_34 ?_
  refine zz_lushr dX2_hasFailed_36 ?_
  refine zz_ldc2 tX2_95 dX2_hasFailed_37 ?_
  refine zz_land dX2_hasFailed_40 ?_
  refine zz_iload_n rfl dX2_hasFailed_41 ?_
  refine zz_i2l dX2_hasFailed_42 ?_
  refine zz_lcmp dX2_hasFailed_43 ?_
  try dsimp only [zz_s1, zz_s2, zz_kill, zz_ent, zz_fl, List.set_cons_zero, List.set_cons_succ, List.getElem?_cons_zero, List.getElem?_cons_succ, Option.toList_some, Option.toList_none, List.cons_append, List.nil_append, List.append_nil, List.length_cons, List.length_nil, List.replicate_succ, List.replicate_zero, Nat.reduceAdd, Nat.reduceSub]
  refine zz_if_lt (tgt := 51) dX2_hasFailed_44 (by decide) (fun q3 => ?_) (fun q3 => ?_)
  · refine zz_iconst (v := 0) (by decide) dX2_hasFailed_51 ?_
    refine zz_ireturn dX2_hasFailed_52 rfl (by first | rfl | decide | assumption) ?_
    exact hQ 0 (Or.inl rfl)
  rw [cmp_lt, nI_l (by omega), show (24 : Int32) = nI 24 from rfl, ls_lN (by omega) (by decide), show (255 : Int64) = lN (2 ^ 8 - 1) from rfl, fb_maskL, lN_lt (by omega) (by omega)] at q3
  refine zz_iconst (v := 1) (by decide) dX2_hasFailed_47 ?_
  refine zz_goto (tgt := 52) dX2_hasFailed_48 (by decide) ?_
  refine zz_ireturn dX2_hasFailed_52 rfl (by first | rfl | decide | assumption) ?_
  refine hQ 1 (Or.inr ⟨rfl, fun hk => u4 (by omega) m (by omega) (kc_sub (fun x hx => ?_) hk)⟩)
  rw [L3, ← q2]
  exact hx
theorem sp_apart (d : Nat) (hO : OK M) (hC : CS I n w A D) {th : Int32} (hth : ∀ x, bt th x = true → A x = true) (hQ : ∀ p, p ≤ 24 → (∀ m, kc D (bt th) m → p ≤ m) → Q (some (.int (nI p))) M I J) : zz_D mX2_apart (d + 2) [.ref 10, .int th] M I J Q := by
  have hn := hC.n24
  refine zz_D_of rfl (Nat.le_of_ble_eq_true rfl) ?_
  try dsimp only [zz_s1, zz_s2, zz_kill, zz_ent, zz_fl, List.set_cons_zero, List.set_cons_succ, List.getElem?_cons_zero, List.getElem?_cons_succ, Option.toList_some, Option.toList_none, List.cons_append, List.nil_append, List.append_nil, List.length_cons, List.length_nil, List.replicate_succ, List.replicate_zero, Nat.reduceAdd, Nat.reduceSub]
  refine zz_iload_n rfl dX2_apart_0 ?_
  refine zz_istore_n dX2_apart_1 (by decide) ?_
  refine zz_iconst (v := 0) (by decide) dX2_apart_2 ?_
  refine zz_istore_n dX2_apart_3 (by decide) ?_
  refine zz_iconst (v := 0) (by decide) dX2_apart_4 ?_
  refine zz_istore dX2_apart_5 (by decide) ?_
  try dsimp only [zz_s1, zz_s2, zz_kill, zz_ent, zz_fl, List.set_cons_zero, List.set_cons_succ, List.getElem?_cons_zero, List.getElem?_cons_succ, Option.toList_some, Option.toList_none, List.cons_append, List.nil_append, List.append_nil, List.length_cons, List.length_nil, List.replicate_succ, List.replicate_zero, Nat.reduceAdd, Nat.reduceSub]
  have loop : ∀ (q p : Nat) (lf : Int32) (X : Nat → Bool) (z5 : Option Value), p + q = 24 → (∀ x, X x = true → bt th x = true) → (∀ x y, X x = true → X y = true → x ≠ y → ¬ D x y) → fb_ct X 32 = p → (∀ x, bt lf x = true → bt th x = true ∧ ∀ y, X y = true → y ≠ x ∧ ¬ D y x) → zz_G mX2_apart (d + 2) 0 7 [some (.ref 10), some (.int th), some (.int lf), some (.int (nI p)), some (.int (nI p)), z5] [] M I J Q := by
    intro q
    induction q with
    | zero =>
      intro p lf X z5 hp h1 h2 h3 h4
      refine zz_iload rfl dX2_apart_7 ?_
      refine zz_bipush (v := 24) (by decide) dX2_apart_9 ?_
      try dsimp only [zz_s1, zz_s2, zz_kill, zz_ent, zz_fl, List.set_cons_zero, List.set_cons_succ, List.getElem?_cons_zero, List.getElem?_cons_succ, Option.toList_some, Option.toList_none, List.cons_append, List.nil_append, List.append_nil, List.length_cons, List.length_nil, List.replicate_succ, List.replicate_zero, Nat.reduceAdd, Nat.reduceSub]
      refine zz_icmp_ge (tgt := 51) dX2_apart_11 (by decide) (fun h => ?_) (fun h => ?_)
      · refine zz_iload_n rfl dX2_apart_51 ?_
        refine zz_ireturn dX2_apart_52 rfl (by first | rfl | decide | assumption) ?_
        exact hQ p (by omega) (fun m hk => by rw [← h3]; exact kc_apart h1 h2 hk)
      · exact absurd (nI_le (a := 24) (show 24 ≤ p by omega) (by omega)) h
    | succ q ih =>
      intro p lf X z5 hp h1 h2 h3 h4
      refine zz_iload rfl dX2_apart_7 ?_
      refine zz_bipush (v := 24) (by decide) dX2_apart_9 ?_
      try dsimp only [zz_s1, zz_s2, zz_kill, zz_ent, zz_fl, List.set_cons_zero, List.set_cons_succ, List.getElem?_cons_zero, List.getElem?_cons_succ, Option.toList_some, Option.toList_none, List.cons_append, List.nil_append, List.append_nil, List.length_cons, List.length_nil, List.replicate_succ, List.replicate_zero, Nat.reduceAdd, Nat.reduceSub]
      refine zz_icmp_ge (tgt := 51) dX2_apart_11 (by decide) (fun h => ?_) (fun h => ?_)
      · exact absurd h (nI_ge (b := 24) (by omega) (by decide))
      refine zz_iload_n rfl dX2_apart_14 ?_
      try dsimp only [zz_s1, zz_s2, zz_kill, zz_ent, zz_fl, List.set_cons_zero, List.set_cons_succ, List.getElem?_cons_zero, List.getElem?_cons_succ, Option.toList_some, Option.toList_none, List.cons_append, List.nil_append, List.append_nil, List.length_cons, List.length_nil, List.replicate_succ, List.replicate_zero, Nat.reduceAdd, Nat.reduceSub]
      refine zz_if_eq (tgt := 51) dX2_apart_15 (by decide) (fun h5 => ?_) (fun h5 => ?_)
      · refine zz_iload_n rfl dX2_apart_51 ?_
        refine zz_ireturn dX2_apart_52 rfl (by first | rfl | decide | assumption) ?_
        exact hQ p (by omega) (fun m hk => by rw [← h3]; exact kc_apart h1 h2 hk)
      refine zz_aload_n rfl dX2_apart_18 ?_
      refine zz_iload_n rfl dX2_apart_19 ?_
      try dsimp only [zz_s1, zz_s2, zz_kill, zz_ent, zz_fl, List.set_cons_zero, List.set_cons_succ, List.getElem?_cons_zero, List.getElem?_cons_succ, Option.toList_some, Option.toList_none, List.cons_append, List.nil_append, List.append_nil, List.length_cons, List.length_nil, List.replicate_succ, List.replicate_zero, Nat.reduceAdd, Nat.reduceSub]
      refine zz_cV1 dX2_apart_20 lX2_79 rfl (os_10 hO) rfl rfl (Nat.le_of_ble_eq_true rfl) (Nat.le_of_ble_eq_true rfl) ?_
      refine sp_loneliest d hO hC (fun x hx => hth x (h4 x hx).1) h5 (fun v hv hvl => ?_)
      try dsimp only [zz_s1, zz_s2, zz_kill, zz_ent, zz_fl, List.set_cons_zero, List.set_cons_succ, List.getElem?_cons_zero, List.getElem?_cons_succ, Option.toList_some, Option.toList_none, List.cons_append, List.nil_append, List.append_nil, List.length_cons, List.length_nil, List.replicate_succ, List.replicate_zero, Nat.reduceAdd, Nat.reduceSub]
      have hxv : X v = false := ts_nt (fun z => ((h4 v hvl).2 v z).1 rfl)
      have hAv := hth v (h4 v hvl).1
      refine zz_istore dX2_apart_23 (by decide) ?_
      refine zz_iload_n rfl dX2_apart_25 ?_
      refine zz_aload_n rfl dX2_apart_26 ?_
      refine zz_getr dX2_apart_27 fX2_15 (fun _ _ _ _ => rfl) (os_10 hO) (or_10_1 hO) ?_
      refine zz_iload rfl dX2_apart_30 ?_
      refine zz_iald dX2_apart_32 (os_12 hO) (vp_in_nI (show v < 24 by omega) (by decide)) ?_
      refine zz_iconst (v := 1) (by decide) dX2_apart_33 ?_
      refine zz_iload rfl dX2_apart_34 ?_
      refine zz_ishl dX2_apart_36 ?_
      refine zz_ior dX2_apart_37 ?_
      refine zz_iconst (v := (-1)) (by decide) dX2_apart_38 ?_
      refine zz_ixor dX2_apart_39 ?_
      refine zz_iand dX2_apart_40 ?_
      refine zz_istore_n dX2_apart_41 (by decide) ?_
      refine zz_iinc dX2_apart_42 rfl (congrArg (HAdd.hAdd _) (show Int32.ofInt 1 = 1 by decide)) (by decide) ?_
      refine zz_iinc dX2_apart_45 rfl (congrArg (HAdd.hAdd _) (show Int32.ofInt 1 = 1 by decide)) (by decide) ?_
      refine zz_goto (tgt := 7) dX2_apart_48 (by decide) ?_
      try dsimp only [zz_s1, zz_s2, zz_kill, zz_ent, zz_fl, List.set_cons_zero, List.set_cons_succ, List.getElem?_cons_zero, List.getElem?_cons_succ, Option.toList_some, Option.toList_none, List.cons_append, List.nil_append, List.append_nil, List.length_cons, List.length_nil, List.replicate_succ, List.replicate_zero, Nat.reduceAdd, Nat.reduceSub]
      rw [nI_clamp (show v < 2 ^ 31 by omega), nI_1]
      refine ih (p + 1) _ (hp_p X v) _ (by omega) (fun x hx => ?_) (fun x y hx hy hne => ?_) ?_ (fun x hx => ?_)
      · exact (hp_p_t.mp hx).elim (h1 x) (fun z => by rw [z]; exact (h4 v hvl).1)
      · rcases hp_p_t.mp hx with a | a
        · rcases hp_p_t.mp hy with b | b
          · exact h2 x y a b hne
          · rw [b]; exact ((h4 v hvl).2 x a).2
        · rcases hp_p_t.mp hy with b | b
          · rw [a]; exact fun z => ((h4 v hvl).2 y b).2 (hC.sy _ _ z)
          · exact absurd (a.trans b.symm) hne
      · rw [ct_hp (by omega) hxv, h3]
      · rw [bt_not, Bool.and_eq_true, Bool.not_eq_true', bt_on _ (by omega)] at hx
        have hxl := h4 x hx.1
        have hx2 : ¬ (bt (I 12 v) x = true ∨ x = v) := fun z => by
          have := hp_p_t.mpr z
          rw [hx.2] at this; cases this
        refine ⟨hxl.1, fun y hy => ?_⟩
        rcases hp_p_t.mp hy with b | b
        · exact hxl.2 y b
        · rw [b]
          exact ⟨fun z => hx2 (Or.inr z.symm), fun z => hx2 (Or.inl ((hC.nr v hAv x (hth x hxl.1)).mpr z))⟩
  refine loop 24 0 th (fun _ => false) _ (by omega) (fun x hx => by cases hx) (fun x y hx => by cases hx) ?_ (fun x hx => ⟨hx, fun y hy => by cases hy⟩)
  exact fb_ct_zero.mpr (fun _ _ => rfl)
theorem sp_withoutEasy (d : Nat) (hO : OK M) (hC : CS I n w A D) {th : Int32} {m : Nat} (hm : m ≤ 24) (hth : ∀ x, bt th x = true → A x = true) (hQ : ∀ lf : Int32, (∀ x, bt lf x = true → bt th x = true) → (kc D (bt lf) m ↔ kc D (bt th) m) → Q (some (.int lf)) M I J) : zz_D mX2_withoutEasy (d + 1) [.ref 10, .int th, .int (nI m)] M I J Q := by
  have hn := hC.n24
  have h3 := hC.len
  refine zz_D_of rfl (Nat.le_of_ble_eq_true rfl) ?_
  try dsimp only [zz_s1, zz_s2, zz_kill, zz_ent, zz_fl, List.set_cons_zero, List.set_cons_succ, List.getElem?_cons_zero, List.getElem?_cons_succ, Option.toList_some, Option.toList_none, List.cons_append, List.nil_append, List.append_nil, List.length_cons, List.length_nil, List.replicate_succ, List.replicate_zero, Nat.reduceAdd, Nat.reduceSub]
  refine zz_iload_n rfl dX2_withoutEasy_0 ?_
  refine zz_istore_n dX2_withoutEasy_1 (by decide) ?_
  refine zz_iconst (v := 1) (by decide) dX2_withoutEasy_2 ?_
  refine zz_istore dX2_withoutEasy_3 (by decide) ?_
  refine zz_iconst (v := 0) (by decide) dX2_withoutEasy_5 ?_
  refine zz_istore dX2_withoutEasy_6 (by decide) ?_
  try dsimp only [zz_s1, zz_s2, zz_kill, zz_ent, zz_fl, List.set_cons_zero, List.set_cons_succ, List.getElem?_cons_zero, List.getElem?_cons_succ, Option.toList_some, Option.toList_none, List.cons_append, List.nil_append, List.append_nil, List.length_cons, List.length_nil, List.replicate_succ, List.replicate_zero, Nat.reduceAdd, Nat.reduceSub]
  have outer : ∀ (q s : Nat) (lf mo : Int32) (z6 z7 : Option Value), s + q = 24 → (∀ x, bt lf x = true → bt th x = true) → (kc D (bt lf) m ↔ kc D (bt th) m) → zz_G mX2_withoutEasy (d + 1) 0 8 [some (.ref 10), some (.int th), some (.int (nI m)), some (.int lf), some (.int mo), some (.int (nI s)), z6, z7] [] M I J Q := by
    intro q
    induction q with
    | zero =>
      intro s lf mo z6 z7 hs h1 h2
      refine zz_iload rfl dX2_withoutEasy_8 ?_
      refine zz_bipush (v := 24) (by decide) dX2_withoutEasy_10 ?_
      try dsimp only [zz_s1, zz_s2, zz_kill, zz_ent, zz_fl, List.set_cons_zero, List.set_cons_succ, List.getElem?_cons_zero, List.getElem?_cons_succ, Option.toList_some, Option.toList_none, List.cons_append, List.nil_append, List.append_nil, List.length_cons, List.length_nil, List.replicate_succ, List.replicate_zero, Nat.reduceAdd, Nat.reduceSub]
      refine zz_icmp_ge (tgt := 96) dX2_withoutEasy_12 (by decide) (fun h => ?_) (fun h => ?_)
      · refine zz_iload_n rfl dX2_withoutEasy_96 ?_
        refine zz_ireturn dX2_withoutEasy_97 rfl (by first | rfl | decide | assumption) ?_
        exact hQ lf h1 h2
      · exact absurd (nI_le (a := 24) (show 24 ≤ s by omega) (by omega)) h
    | succ q ih =>
      intro s lf mo z6 z7 hs h1 h2
      refine zz_iload rfl dX2_withoutEasy_8 ?_
      refine zz_bipush (v := 24) (by decide) dX2_withoutEasy_10 ?_
      try dsimp only [zz_s1, zz_s2, zz_kill, zz_ent, zz_fl, List.set_cons_zero, List.set_cons_succ, List.getElem?_cons_zero, List.getElem?_cons_succ, Option.toList_some, Option.toList_none, List.cons_append, List.nil_append, List.append_nil, List.length_cons, List.length_nil, List.replicate_succ, List.replicate_zero, Nat.reduceAdd, Nat.reduceSub]
      refine zz_icmp_ge (tgt := 96) dX2_withoutEasy_12 (by decide) (fun h => ?_) (fun h => ?_)
      · exact absurd h (nI_ge (b := 24) (by omega) (by decide))
      refine zz_iload rfl dX2_withoutEasy_15 ?_
      try dsimp only [zz_s1, zz_s2, zz_kill, zz_ent, zz_fl, List.set_cons_zero, List.set_cons_succ, List.getElem?_cons_zero, List.getElem?_cons_succ, Option.toList_some, Option.toList_none, List.cons_append, List.nil_append, List.append_nil, List.length_cons, List.length_nil, List.replicate_succ, List.replicate_zero, Nat.reduceAdd, Nat.reduceSub]
      refine zz_if_eq (tgt := 96) dX2_withoutEasy_17 (by decide) (fun h4 => ?_) (fun h4 => ?_)
      · refine zz_iload_n rfl dX2_withoutEasy_96 ?_
        refine zz_ireturn dX2_withoutEasy_97 rfl (by first | rfl | decide | assumption) ?_
        exact hQ lf h1 h2
      refine zz_iload_n rfl dX2_withoutEasy_20 ?_
      refine zz_istore dX2_withoutEasy_21 (by decide) ?_
      refine zz_iconst (v := 0) (by decide) dX2_withoutEasy_23 ?_
      refine zz_istore dX2_withoutEasy_24 (by decide) ?_
      try dsimp only [zz_s1, zz_s2, zz_kill, zz_ent, zz_fl, List.set_cons_zero, List.set_cons_succ, List.getElem?_cons_zero, List.getElem?_cons_succ, Option.toList_some, Option.toList_none, List.cons_append, List.nil_append, List.append_nil, List.length_cons, List.length_nil, List.replicate_succ, List.replicate_zero, Nat.reduceAdd, Nat.reduceSub]
      have inner : ∀ (q2 a : Nat) (l2 : Int32), a + q2 = n → (∀ x, bt l2 x = true → bt th x = true) → (kc D (bt l2) m ↔ kc D (bt th) m) → zz_G mX2_withoutEasy (d + 1) 0 26 [some (.ref 10), some (.int th), some (.int (nI m)), some (.int l2), some (.int mo), some (.int (nI s)), some (.int lf), some (.int (nI a))] [] M I J Q := by
        intro q2
        induction q2 with
        | zero =>
          intro a l2 ha k1 k2
          have e : a = n := by omega
          subst e
          refine zz_iload rfl dX2_withoutEasy_26 ?_
          refine zz_aload_n rfl dX2_withoutEasy_28 ?_
          refine zz_geti dX2_withoutEasy_29 fX2_32 rfl (os_10 hO) ?_
          try dsimp only [zz_s1, zz_s2, zz_kill, zz_ent, zz_fl, List.set_cons_zero, List.set_cons_succ, List.getElem?_cons_zero, List.getElem?_cons_succ, Option.toList_some, Option.toList_none, List.cons_append, List.nil_append, List.append_nil, List.length_cons, List.length_nil, List.replicate_succ, List.replicate_zero, Nat.reduceAdd, Nat.reduceSub]
          rw [h3]
          refine zz_icmp_ge (tgt := 77) dX2_withoutEasy_32 (by decide) (fun h5 => ?_) (fun h5 => ?_)
          · refine zz_iload_n rfl dX2_withoutEasy_77 ?_
            refine zz_iload rfl dX2_withoutEasy_78 ?_
            try dsimp only [zz_s1, zz_s2, zz_kill, zz_ent, zz_fl, List.set_cons_zero, List.set_cons_succ, List.getElem?_cons_zero, List.getElem?_cons_succ, Option.toList_some, Option.toList_none, List.cons_append, List.nil_append, List.append_nil, List.length_cons, List.length_nil, List.replicate_succ, List.replicate_zero, Nat.reduceAdd, Nat.reduceSub]
            refine zz_icmp_eq (tgt := 87) dX2_withoutEasy_80 (by decide) (fun h6 => ?_) (fun h6 => ?_)
            · refine zz_iconst (v := 0) (by decide) dX2_withoutEasy_87 ?_
              refine zz_istore dX2_withoutEasy_88 (by decide) ?_
              refine zz_iinc dX2_withoutEasy_90 rfl (congrArg (HAdd.hAdd _) (show Int32.ofInt 1 = 1 by decide)) (by decide) ?_
              refine zz_goto (tgt := 8) dX2_withoutEasy_93 (by decide) ?_
              try dsimp only [zz_s1, zz_s2, zz_kill, zz_ent, zz_fl, List.set_cons_zero, List.set_cons_succ, List.getElem?_cons_zero, List.getElem?_cons_succ, Option.toList_some, Option.toList_none, List.cons_append, List.nil_append, List.append_nil, List.length_cons, List.length_nil, List.replicate_succ, List.replicate_zero, Nat.reduceAdd, Nat.reduceSub]
              rw [nI_1]
              exact ih (s + 1) l2 _ _ _ (by omega) k1 k2
            · skip
              refine zz_iconst (v := 1) (by decide) dX2_withoutEasy_83 ?_
              refine zz_goto (tgt := 88) dX2_withoutEasy_84 (by decide) ?_
              refine zz_istore dX2_withoutEasy_88 (by decide) ?_
              refine zz_iinc dX2_withoutEasy_90 rfl (congrArg (HAdd.hAdd _) (show Int32.ofInt 1 = 1 by decide)) (by decide) ?_
              refine zz_goto (tgt := 8) dX2_withoutEasy_93 (by decide) ?_
              try dsimp only [zz_s1, zz_s2, zz_kill, zz_ent, zz_fl, List.set_cons_zero, List.set_cons_succ, List.getElem?_cons_zero, List.getElem?_cons_succ, Option.toList_some, Option.toList_none, List.cons_append, List.nil_append, List.append_nil, List.length_cons, List.length_nil, List.replicate_succ, List.replicate_zero, Nat.reduceAdd, Nat.reduceSub]
              rw [nI_1]
              exact ih (s + 1) l2 _ _ _ (by omega) k1 k2
          · exact absurd (nI_le (Nat.le_refl a) (by omega)) h5
        | succ q2 ih2 =>
          intro a l2 ha k1 k2
          refine zz_iload rfl dX2_withoutEasy_26 ?_
          refine zz_aload_n rfl dX2_withoutEasy_28 ?_
          refine zz_geti dX2_withoutEasy_29 fX2_32 rfl (os_10 hO) ?_
          try dsimp only [zz_s1, zz_s2, zz_kill, zz_ent, zz_fl, List.set_cons_zero, List.set_cons_succ, List.getElem?_cons_zero, List.getElem?_cons_succ, Option.toList_some, Option.toList_none, List.cons_append, List.nil_append, List.append_nil, List.length_cons, List.length_nil, List.replicate_succ, List.replicate_zero, Nat.reduceAdd, Nat.reduceSub]
          rw [h3]
          refine zz_icmp_ge (tgt := 77) dX2_withoutEasy_32 (by decide) (fun h5 => ?_) (fun h5 => ?_)
          · exact absurd h5 (nI_ge (by omega) (by omega))
          refine zz_iload_n rfl dX2_withoutEasy_35 ?_
          refine zz_iload rfl dX2_withoutEasy_36 ?_
          refine zz_iushr dX2_withoutEasy_38 ?_
          refine zz_iconst (v := 1) (by decide) dX2_withoutEasy_39 ?_
          refine zz_iand dX2_withoutEasy_40 ?_
          try dsimp only [zz_s1, zz_s2, zz_kill, zz_ent, zz_fl, List.set_cons_zero, List.set_cons_succ, List.getElem?_cons_zero, List.getElem?_cons_succ, Option.toList_some, Option.toList_none, List.cons_append, List.nil_append, List.append_nil, List.length_cons, List.length_nil, List.replicate_succ, List.replicate_zero, Nat.reduceAdd, Nat.reduceSub]
          refine zz_if_eq (tgt := 71) dX2_withoutEasy_41 (by decide) (fun h6 => ?_) (fun h6 => ?_)
          · refine zz_iinc dX2_withoutEasy_71 rfl (congrArg (HAdd.hAdd _) (show Int32.ofInt 1 = 1 by decide)) (by decide) ?_
            refine zz_goto (tgt := 26) dX2_withoutEasy_74 (by decide) ?_
            try dsimp only [zz_s1, zz_s2, zz_kill, zz_ent, zz_fl, List.set_cons_zero, List.set_cons_succ, List.getElem?_cons_zero, List.getElem?_cons_succ, Option.toList_some, Option.toList_none, List.cons_append, List.nil_append, List.append_nil, List.length_cons, List.length_nil, List.replicate_succ, List.replicate_zero, Nat.reduceAdd, Nat.reduceSub]
            rw [nI_1]
            exact ih2 (a + 1) l2 (by omega) k1 k2
          have hb := ubit_t l2 (show a < 32 by omega) h6
          refine zz_iload_n rfl dX2_withoutEasy_44 ?_
          refine zz_aload_n rfl dX2_withoutEasy_45 ?_
          refine zz_getr dX2_withoutEasy_46 fX2_15 (fun _ _ _ _ => rfl) (os_10 hO) (or_10_1 hO) ?_
          refine zz_iload rfl dX2_withoutEasy_49 ?_
          refine zz_iald dX2_withoutEasy_51 (os_12 hO) (vp_in_nI (show a < 24 by omega) (by decide)) ?_
          refine zz_iconst (v := (-1)) (by decide) dX2_withoutEasy_52 ?_
          refine zz_ixor dX2_withoutEasy_53 ?_
          refine zz_iand dX2_withoutEasy_54 ?_
          try dsimp only [zz_s1, zz_s2, zz_kill, zz_ent, zz_fl, List.set_cons_zero, List.set_cons_succ, List.getElem?_cons_zero, List.getElem?_cons_succ, Option.toList_some, Option.toList_none, List.cons_append, List.nil_append, List.append_nil, List.length_cons, List.length_nil, List.replicate_succ, List.replicate_zero, Nat.reduceAdd, Nat.reduceSub]
          rw [nI_clamp (show a < 2 ^ 31 by omega)]
          refine zz_cS1 dX2_withoutEasy_55 lX2_67 rfl (Nat.le_of_ble_eq_true rfl) (Nat.le_of_ble_eq_true rfl) ?_
          refine sp_bitCountI d ?_
          try dsimp only [zz_s1, zz_s2, zz_kill, zz_ent, zz_fl, List.set_cons_zero, List.set_cons_succ, List.getElem?_cons_zero, List.getElem?_cons_succ, Option.toList_some, Option.toList_none, List.cons_append, List.nil_append, List.append_nil, List.length_cons, List.length_nil, List.replicate_succ, List.replicate_zero, Nat.reduceAdd, Nat.reduceSub]
          have hc32 : fb_ct (bt (l2 &&& (I 12 a ^^^ (-1)))) 32 ≤ 32 := fb_ct_le _ _
          refine zz_iload_n rfl dX2_withoutEasy_58 ?_
          try dsimp only [zz_s1, zz_s2, zz_kill, zz_ent, zz_fl, List.set_cons_zero, List.set_cons_succ, List.getElem?_cons_zero, List.getElem?_cons_succ, Option.toList_some, Option.toList_none, List.cons_append, List.nil_append, List.append_nil, List.length_cons, List.length_nil, List.replicate_succ, List.replicate_zero, Nat.reduceAdd, Nat.reduceSub]
          refine zz_icmp_gt (tgt := 71) dX2_withoutEasy_59 (by decide) (fun h7 => ?_) (fun h7 => ?_)
          · refine zz_iinc dX2_withoutEasy_71 rfl (congrArg (HAdd.hAdd _) (show Int32.ofInt 1 = 1 by decide)) (by decide) ?_
            refine zz_goto (tgt := 26) dX2_withoutEasy_74 (by decide) ?_
            try dsimp only [zz_s1, zz_s2, zz_kill, zz_ent, zz_fl, List.set_cons_zero, List.set_cons_succ, List.getElem?_cons_zero, List.getElem?_cons_succ, Option.toList_some, Option.toList_none, List.cons_append, List.nil_append, List.append_nil, List.length_cons, List.length_nil, List.replicate_succ, List.replicate_zero, Nat.reduceAdd, Nat.reduceSub]
            rw [nI_1]
            exact ih2 (a + 1) l2 (by omega) k1 k2
          have hcm : fb_ct (bt (l2 &&& (I 12 a ^^^ (-1)))) 32 ≤ m := Nat.le_of_not_lt fun z => h7 (nI_lt z (by omega))
          refine zz_iload_n rfl dX2_withoutEasy_62 ?_
          refine zz_iconst (v := 1) (by decide) dX2_withoutEasy_63 ?_
          refine zz_iload rfl dX2_withoutEasy_64 ?_
          refine zz_ishl dX2_withoutEasy_66 ?_
          refine zz_iconst (v := (-1)) (by decide) dX2_withoutEasy_67 ?_
          refine zz_ixor dX2_withoutEasy_68 ?_
          refine zz_iand dX2_withoutEasy_69 ?_
          refine zz_istore_n dX2_withoutEasy_70 (by decide) ?_
          refine zz_iinc dX2_withoutEasy_71 rfl (congrArg (HAdd.hAdd _) (show Int32.ofInt 1 = 1 by decide)) (by decide) ?_
          refine zz_goto (tgt := 26) dX2_withoutEasy_74 (by decide) ?_
          try dsimp only [zz_s1, zz_s2, zz_kill, zz_ent, zz_fl, List.set_cons_zero, List.set_cons_succ, List.getElem?_cons_zero, List.getElem?_cons_succ, Option.toList_some, Option.toList_none, List.cons_append, List.nil_append, List.append_nil, List.length_cons, List.length_nil, List.replicate_succ, List.replicate_zero, Nat.reduceAdd, Nat.reduceSub]
          rw [nI_1]
          have eo : bt (l2 &&& (((1 : Int32) <<< (nI a &&& 31)) ^^^ (-1))) = rm (bt l2) a := funext (fun i => bt_off l2 (by omega) i)
          refine ih2 (a + 1) _ (by omega) (fun x hx => ?_) ?_
          · rw [eo] at hx
            exact k1 x (rm_t.mp hx).1
          · rw [eo, ← k2]
            have hAa := hth a (k1 a hb)
            refine ⟨fun hk => kc_easy (N := bt (l2 &&& (I 12 a ^^^ (-1)))) hC.sy (fun x hx => bt_lt hx) (fun x hx hd => ?_) ?_ hcm hk, fun hk => kc_sub (fun x hx => (rm_t.mp hx).1) hk⟩
            · rw [bt_not, hx, Bool.true_and, Bool.not_eq_true']
              exact ts_nt (fun z => hd ((hC.nr a hAa x (hth x (k1 x hx))).mp z))
            · rw [bt_not, hb, Bool.true_and, Bool.not_eq_true']
              exact ts_nt (fun z => hC.ir a ((hC.nr a hAa a hAa).mp z))
      exact inner n 0 lf (by omega) h1 h2
  exact outer 24 0 th 1 _ _ (by omega) (fun _ hx => hx) Iff.rfl
end PSearch

