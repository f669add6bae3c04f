/-! ===== told ===== -/
/-- which letters share a sign, of the first pairs -/
def se (g : Nat → Int32) (a b : Nat) : Nat → Nat → Bool := fun x y => decide (x ≠ y ∧ ¬ (g x &&& g y = 0) ∧ ((x < a ∧ y < a) ∨ (x = a ∧ y < b) ∨ (y = a ∧ x < b)))
theorem se_yes {g : Nat → Int32} {a b : Nat} (hb : b < a) (h : ¬ (g a &&& g b = 0)) : jn (se g a b) a b = se g a (b + 1) := by
  funext x y
  unfold jn se
  rw [Bool.eq_iff_iff]
  simp only [Bool.or_eq_true, decide_eq_true_eq]
  have hc : ¬ (g b &&& g a = 0) := by rw [Int32.and_comm]; exact h
  constructor
  · rintro (⟨p, q, r⟩ | ⟨p, q⟩ | ⟨p, q⟩)
    · exact ⟨p, q, by omega⟩
    · rw [p, q]; exact ⟨by omega, h, by omega⟩
    · rw [p, q]; exact ⟨by omega, hc, by omega⟩
  · rintro ⟨p, q, r⟩
    by_cases c1 : x = a ∧ y = b
    · exact Or.inr (Or.inl c1)
    · by_cases c2 : x = b ∧ y = a
      · exact Or.inr (Or.inr c2)
      · exact Or.inl ⟨p, q, by omega⟩
theorem se_no {g : Nat → Int32} {a b : Nat} (hb : b < a) (h : g a &&& g b = 0) : se g a b = se g a (b + 1) := by
  funext x y
  unfold se
  rw [Bool.eq_iff_iff]
  simp only [decide_eq_true_eq]
  constructor
  · rintro ⟨p, q, r⟩
    exact ⟨p, q, by omega⟩
  · rintro ⟨p, q, r⟩
    refine ⟨p, q, ?_⟩
    by_cases c1 : x = a ∧ y = b
    · rw [c1.1, c1.2] at q; exact absurd h q
    · by_cases c2 : x = b ∧ y = a
      · rw [c2.1, c2.2, Int32.and_comm] at q; exact absurd h q
      · omega
theorem se_next (g : Nat → Int32) (a : Nat) : se g a a = se g (a + 1) 0 := by
  funext x y
  unfold se
  rw [Bool.eq_iff_iff]
  simp only [decide_eq_true_eq]
  constructor
  · rintro ⟨p, q, r⟩
    exact ⟨p, q, by omega⟩
  · rintro ⟨p, q, r⟩
    exact ⟨p, q, by omega⟩
theorem se_0 (g : Nat → Int32) : se g 0 0 = fun _ _ => false := by
  funext x y
  simp [se]
theorem se_off {g : Nat → Int32} {a b : Nat} (hb : b < a) : se g a b a b = false ∧ se g a b b a = false := by
  unfold se
  simp only [decide_eq_false_iff_not]
  exact ⟨fun q => by omega, fun q => by omega⟩
def FO (l : Nat) (I I' : zz_I) : Prop := ∀ l', l' < 8 → l' ≠ l → I' 260 l' = I 260 l' ∧ I' 261 l' = I 261 l' ∧ I' 265 l' = I 265 l' ∧ (∀ a, a < 24 → I' 262 (24 * l' + a) = I 262 (24 * l' + a)) ∧ (∀ a, a < 24 → I' 263 (24 * l' + a) = I 263 (24 * l' + a)) ∧ ∀ j, j < 150 → I' 264 (150 * l' + j) = I 264 (150 * l' + j)
theorem FO.tr {l : Nat} {I I1 I2 : zz_I} (h : FO l I I1) (h2 : FO l I1 I2) : FO l I I2 := by
  intro l' a b
  obtain ⟨p1, p2, p3, p4, p5, p6⟩ := h l' a b
  obtain ⟨q1, q2, q3, q4, q5, q6⟩ := h2 l' a b
  exact ⟨q1.trans p1, q2.trans p2, q3.trans p3, fun a ha => (q4 a ha).trans (p4 a ha), fun a ha => (q5 a ha).trans (p5 a ha), fun j hj => (q6 j hj).trans (p6 j hj)⟩
theorem FO.of {l : Nat} {I I' : zz_I} (h : ∀ c, 260 ≤ c → c ≤ 265 → I' c = I c) : FO l I I' := fun l' _ _ => ⟨by rw [h _ (by decide) (by decide)], by rw [h _ (by decide) (by decide)], by rw [h _ (by decide) (by decide)], fun a _ => by rw [h _ (by decide) (by decide)], fun a _ => by rw [h _ (by decide) (by decide)], fun j _ => by rw [h _ (by decide) (by decide)]⟩
theorem FO.ML {l l' n : Nat} {kd ag : Int32} {E : Nat → Nat → Bool} {sg : Nat → Int32} {rw : Nat → Nat → Int32} {I I' : zz_I} (h : FO l I I') (hl : l' < 8) (hne : l' ≠ l) (hm : ML I l' n kd ag E sg rw) : ML I' l' n kd ag E sg rw := by
  obtain ⟨p1, p2, p3, p4, p5, p6⟩ := h l' hl hne
  refine ⟨p2.trans hm.1, p1.trans hm.2.1, p3.trans hm.2.2.1, fun a ha b hb => by rw [p4 a ha]; exact hm.2.2.2.1 a ha b hb, fun a ha => by rw [p5 a ha]; exact hm.2.2.2.2.1 a ha, fun a ha i hi => by rw [p6 _ (by omega)]; exact hm.2.2.2.2.2 a ha i hi⟩
theorem mb_32 : ∀ v, v < 256 → (jv_b (nI v) = 32 ↔ v = 32) := by decide +kernel
theorem mb_10 : ∀ v, v < 256 → (jv_b (nI v) = 10 ↔ v = 10) := by decide +kernel
theorem mb_59 : ∀ v, v < 256 → (jv_b (nI v) = 59 ↔ v = 59) := by decide +kernel
theorem mb_ax : ∀ v, v < 256 → ((¬ jv_b (nI v) < 97 ∧ jv_b (nI v) ≤ 120) ↔ (97 ≤ v ∧ v ≤ 120)) := by decide +kernel
theorem mb_sub : ∀ v, v < 121 → 97 ≤ v → jv_b (nI v) - 97 = nI (v - 97) := by decide +kernel
theorem prs_len (by_ : Nat → Nat) (n : Nat) : ∀ (r k : Nat) (set : Int32) (rd L : List Int32), rd.length ≤ 23 → prs by_ n r k set rd = .inr L → 1 ≤ L.length ∧ L.length ≤ 24 := by
  intro r
  induction r with
  | zero =>
    intro k set rd L hrd h
    unfold prs at h
    split at h
    · cases h
    · cases h
      simp
      omega
  | succ r ih =>
    intro k set rd L hrd h
    unfold prs at h
    split at h
    · exact ih _ _ _ _ hrd h
    · split at h
      · split at h
        · cases h
        · split at h
          · cases h
          · exact ih _ _ _ _ (by simp; omega) h
      · split at h
        · split at h
          · cases h
          · exact ih _ _ _ _ hrd h
        · cases h
section PTold
variable {M : zz_M} {I : zz_I} {J : zz_J} {Q : zz_Q}
theorem sp_X3_takeSigns (d : Nat) (hO : OK M) {l n : Nat} {kd ag : Int32} {g : Nat → Int32} (hl : l < 8) (hn : n ≤ 24) (hc : CL I l n kd ag (fun _ _ => false) (fun _ => 0) (fun _ _ => 0)) (hg : ∀ i, i < n → I 5 i = g i) (hQ : ∀ I' : zz_I, FC l I I' → CL I' l n kd ag (se g n 0) (fun a => if a < n then g a else 0) (fun _ _ => 0) → Q none M I' J) : zz_D mX3_takeSigns (d + 1) [.ref (LN l), .ref 5] M I J Q := by
  have h5 : 5 < LN l := by unfold LN; omega
  refine zz_D_of rfl (Nat.le_of_ble_eq_true rfl) ?_
  try dsimp only [zz_s1, zz_s2, zz_kill, zz_ent, zz_fl, List.set_cons_zero, List.set_cons_succ, List.getElem?_cons_zero, List.getElem?_cons_succ, Option.toList_some, Option.toList_none, List.cons_append, List.nil_append, List.append_nil, List.length_cons, List.length_nil, List.replicate_succ, List.replicate_zero, Nat.reduceAdd, Nat.reduceSub]
  refine zz_iconst (v := 0) (by decide) dX3_takeSigns_0 ?_
  refine zz_istore_n dX3_takeSigns_1 (by decide) ?_
  try dsimp only [zz_s1, zz_s2, zz_kill, zz_ent, zz_fl, List.set_cons_zero, List.set_cons_succ, List.getElem?_cons_zero, List.getElem?_cons_succ, Option.toList_some, Option.toList_none, List.cons_append, List.nil_append, List.append_nil, List.length_cons, List.length_nil, List.replicate_succ, List.replicate_zero, Nat.reduceAdd, Nat.reduceSub]
  have outer : ∀ (r a : Nat) (Ix : zz_I) (z : Option Value), a + r = n → FC l I Ix → CL Ix l n kd ag (se g a 0) (fun x => if x < a then g x else 0) (fun _ _ => 0) → zz_G mX3_takeSigns (d + 1) 0 2 [some (.ref (LN l)), some (.ref 5), some (.int (nI a)), z] [] M Ix J Q := by
    intro r
    induction r with
    | zero =>
      intro a Ix z ha hf hx
      have ea : a = n := by omega
      subst ea
      refine zz_iload_n rfl dX3_takeSigns_2 ?_
      refine zz_aload_n rfl dX3_takeSigns_3 ?_
      refine zz_geti dX3_takeSigns_4 fX3_15 rfl (ol_obj hO hl) ?_
      try dsimp only [zz_s1, zz_s2, zz_kill, zz_ent, zz_fl, List.set_cons_zero, List.set_cons_succ, List.getElem?_cons_zero, List.getElem?_cons_succ, Option.toList_some, Option.toList_none, List.cons_append, List.nil_append, List.append_nil, List.length_cons, List.length_nil, List.replicate_succ, List.replicate_zero, Nat.reduceAdd, Nat.reduceSub]
      rw [hx.2.1]
      refine zz_icmp_ge (tgt := 60) dX3_takeSigns_7 (by decide) (fun h => ?_) (fun h => ?_)
      · refine zz_return dX3_takeSigns_60 rfl ?_
        exact hQ Ix hf hx
      · exact absurd (nI_le (Nat.le_refl a) (by omega)) h
    | succ r ih =>
      intro a Ix z ha hf hx
      have h5x : Ix 5 = I 5 := hf 5 (Or.inl h5)
      refine zz_iload_n rfl dX3_takeSigns_2 ?_
      refine zz_aload_n rfl dX3_takeSigns_3 ?_
      refine zz_geti dX3_takeSigns_4 fX3_15 rfl (ol_obj hO hl) ?_
      try dsimp only [zz_s1, zz_s2, zz_kill, zz_ent, zz_fl, List.set_cons_zero, List.set_cons_succ, List.getElem?_cons_zero, List.getElem?_cons_succ, Option.toList_some, Option.toList_none, List.cons_append, List.nil_append, List.append_nil, List.length_cons, List.length_nil, List.replicate_succ, List.replicate_zero, Nat.reduceAdd, Nat.reduceSub]
      rw [hx.2.1]
      refine zz_icmp_ge (tgt := 60) dX3_takeSigns_7 (by decide) (fun h => ?_) (fun h => ?_)
      · exact absurd h (nI_ge (by omega) (by omega))
      · skip
        refine zz_aload_n rfl dX3_takeSigns_10 ?_
        refine zz_getr dX3_takeSigns_11 fX3_25 (fun _ _ _ _ => rfl) (ol_obj hO hl) (olr_signs hO hl) ?_
        refine zz_iload_n rfl dX3_takeSigns_14 ?_
        refine zz_aload_n rfl dX3_takeSigns_15 ?_
        refine zz_iload_n rfl dX3_takeSigns_16 ?_
        refine zz_iald dX3_takeSigns_17 (os_5 hO) (vp_in_nI (by omega) (by decide)) ?_
        refine zz_iast dX3_takeSigns_18 (ol_signs hO hl) (vp_in_nI (by omega) (by decide)) ?_
        refine zz_iconst (v := 0) (by decide) dX3_takeSigns_19 ?_
        refine zz_istore_n dX3_takeSigns_20 (by decide) ?_
        try dsimp only [zz_s1, zz_s2, zz_kill, zz_ent, zz_fl, List.set_cons_zero, List.set_cons_succ, List.getElem?_cons_zero, List.getElem?_cons_succ, Option.toList_some, Option.toList_none, List.cons_append, List.nil_append, List.append_nil, List.length_cons, List.length_nil, List.replicate_succ, List.replicate_zero, Nat.reduceAdd, Nat.reduceSub]
        rw [nI_clamp (by omega), h5x, hg a (by omega)]
        have inn : ∀ (q b : Nat) (Iy : zz_I), b + q = a → FC l I Iy → CL Iy l n kd ag (se g a b) (fun x => if x < a + 1 then g x else 0) (fun _ _ => 0) → zz_G mX3_takeSigns (d + 1) 0 21 [some (.ref (LN l)), some (.ref 5), some (.int (nI a)), some (.int (nI b))] [] M Iy J Q := by
          intro q
          induction q with
          | zero =>
            intro b Iy hb hfy hy
            have eb : b = a := by omega
            subst eb
            refine zz_iload_n rfl dX3_takeSigns_21 ?_
            refine zz_iload_n rfl dX3_takeSigns_22 ?_
            try dsimp only [zz_s1, zz_s2, zz_kill, zz_ent, zz_fl, List.set_cons_zero, List.set_cons_succ, List.getElem?_cons_zero, List.getElem?_cons_succ, Option.toList_some, Option.toList_none, List.cons_append, List.nil_append, List.append_nil, List.length_cons, List.length_nil, List.replicate_succ, List.replicate_zero, Nat.reduceAdd, Nat.reduceSub]
            refine zz_icmp_ge (tgt := 54) dX3_takeSigns_23 (by decide) (fun h6 => ?_) (fun h6 => ?_)
            · refine zz_iinc dX3_takeSigns_54 rfl (congrArg (HAdd.hAdd _) (show Int32.ofInt 1 = 1 by decide)) (by decide) ?_
              refine zz_goto (tgt := 2) dX3_takeSigns_57 (by decide) ?_
              try dsimp only [zz_s1, zz_s2, zz_kill, zz_ent, zz_fl, List.set_cons_zero, List.set_cons_succ, List.getElem?_cons_zero, List.getElem?_cons_succ, Option.toList_some, Option.toList_none, List.cons_append, List.nil_append, List.append_nil, List.length_cons, List.length_nil, List.replicate_succ, List.replicate_zero, Nat.reduceAdd, Nat.reduceSub]
              rw [nI_1]
              rw [se_next] at hy
              exact ih (b + 1) Iy _ (by omega) hfy hy
            · exact absurd (nI_le (Nat.le_refl b) (by omega)) h6
          | succ q ih2 =>
            intro b Iy hb hfy hy
            refine zz_iload_n rfl dX3_takeSigns_21 ?_
            refine zz_iload_n rfl dX3_takeSigns_22 ?_
            try dsimp only [zz_s1, zz_s2, zz_kill, zz_ent, zz_fl, List.set_cons_zero, List.set_cons_succ, List.getElem?_cons_zero, List.getElem?_cons_succ, Option.toList_some, Option.toList_none, List.cons_append, List.nil_append, List.append_nil, List.length_cons, List.length_nil, List.replicate_succ, List.replicate_zero, Nat.reduceAdd, Nat.reduceSub]
            refine zz_icmp_ge (tgt := 54) dX3_takeSigns_23 (by decide) (fun h6 => ?_) (fun h6 => ?_)
            · exact absurd h6 (nI_ge (by omega) (by omega))
            · skip
              refine zz_aload_n rfl dX3_takeSigns_26 ?_
              refine zz_getr dX3_takeSigns_27 fX3_25 (fun _ _ _ _ => rfl) (ol_obj hO hl) (olr_signs hO hl) ?_
              refine zz_iload_n rfl dX3_takeSigns_30 ?_
              refine zz_iald dX3_takeSigns_31 (ol_signs hO hl) (vp_in_nI (by omega) (by decide)) ?_
              refine zz_aload_n rfl dX3_takeSigns_32 ?_
              refine zz_getr dX3_takeSigns_33 fX3_25 (fun _ _ _ _ => rfl) (ol_obj hO hl) (olr_signs hO hl) ?_
              refine zz_iload_n rfl dX3_takeSigns_36 ?_
              refine zz_iald dX3_takeSigns_37 (ol_signs hO hl) (vp_in_nI (by omega) (by decide)) ?_
              refine zz_iand dX3_takeSigns_38 ?_
              try dsimp only [zz_s1, zz_s2, zz_kill, zz_ent, zz_fl, List.set_cons_zero, List.set_cons_succ, List.getElem?_cons_zero, List.getElem?_cons_succ, Option.toList_some, Option.toList_none, List.cons_append, List.nil_append, List.append_nil, List.length_cons, List.length_nil, List.replicate_succ, List.replicate_zero, Nat.reduceAdd, Nat.reduceSub]
              have ya : Iy (LN l + 2) a = g a := (hy.2.2.2.2.1 a (by omega)).trans (if_pos (by omega))
              have yb : Iy (LN l + 2) b = g b := (hy.2.2.2.2.1 b (by omega)).trans (if_pos (by omega))
              rw [nI_clamp (show a < 2 ^ 31 by omega), nI_clamp (show b < 2 ^ 31 by omega), ya, yb]
              refine zz_if_eq (tgt := 48) dX3_takeSigns_39 (by decide) (fun h7 => ?_) (fun h7 => ?_)
              · refine zz_iinc dX3_takeSigns_48 rfl (congrArg (HAdd.hAdd _) (show Int32.ofInt 1 = 1 by decide)) (by decide) ?_
                refine zz_goto (tgt := 21) dX3_takeSigns_51 (by decide) ?_
                try dsimp only [zz_s1, zz_s2, zz_kill, zz_ent, zz_fl, List.set_cons_zero, List.set_cons_succ, List.getElem?_cons_zero, List.getElem?_cons_succ, Option.toList_some, Option.toList_none, List.cons_append, List.nil_append, List.append_nil, List.length_cons, List.length_nil, List.replicate_succ, List.replicate_zero, Nat.reduceAdd, Nat.reduceSub]
                rw [nI_1]
                rw [se_no (by omega) h7] at hy
                exact ih2 (b + 1) Iy (by omega) hfy hy
              · skip
                refine zz_aload_n rfl dX3_takeSigns_42 ?_
                refine zz_iload_n rfl dX3_takeSigns_43 ?_
                refine zz_iload_n rfl dX3_takeSigns_44 ?_
                try dsimp only [zz_s1, zz_s2, zz_kill, zz_ent, zz_fl, List.set_cons_zero, List.set_cons_succ, List.getElem?_cons_zero, List.getElem?_cons_succ, Option.toList_some, Option.toList_none, List.cons_append, List.nil_append, List.append_nil, List.length_cons, List.length_nil, List.replicate_succ, List.replicate_zero, Nat.reduceAdd, Nat.reduceSub]
                refine zz_cV2 dX3_takeSigns_45 lX3_36 rfl (ol_obj hO hl) rfl rfl (Nat.le_of_ble_eq_true rfl) (Nat.le_of_ble_eq_true rfl) ?_
                refine sp_flip d hO hl (show a < 24 by omega) (show b < 24 by omega) (by omega) hy (fun I1 k1 k2 => ?_)
                try dsimp only [zz_s1, zz_s2, zz_kill, zz_ent, zz_fl, List.set_cons_zero, List.set_cons_succ, List.getElem?_cons_zero, List.getElem?_cons_succ, Option.toList_some, Option.toList_none, List.cons_append, List.nil_append, List.append_nil, List.length_cons, List.length_nil, List.replicate_succ, List.replicate_zero, Nat.reduceAdd, Nat.reduceSub]
                refine zz_iinc dX3_takeSigns_48 rfl (congrArg (HAdd.hAdd _) (show Int32.ofInt 1 = 1 by decide)) (by decide) ?_
                refine zz_goto (tgt := 21) dX3_takeSigns_51 (by decide) ?_
                try dsimp only [zz_s1, zz_s2, zz_kill, zz_ent, zz_fl, List.set_cons_zero, List.set_cons_succ, List.getElem?_cons_zero, List.getElem?_cons_succ, Option.toList_some, Option.toList_none, List.cons_append, List.nil_append, List.append_nil, List.length_cons, List.length_nil, List.replicate_succ, List.replicate_zero, Nat.reduceAdd, Nat.reduceSub]
                rw [nI_1]
                rw [tg_jn (se_off (by omega)).1 (se_off (by omega)).2, se_yes (by omega) h7] at k2
                exact ih2 (b + 1) I1 (by omega) (FC.tr hfy (fun c hc => k1 c (by omega))) k2
        refine inn a 0 _ (by omega) (FC.tr hf (fun c hc => zz_ui_ne _ _ _ (by omega))) ⟨?_, ?_, ?_, fun x hx2 y hy2 => ?_, fun x hx2 => ?_, fun x hx2 i hi => ?_⟩
        · rw [zz_ui_ne _ _ _ (by omega)]; exact hx.1
        · rw [zz_ui_ne _ _ _ (by omega)]; exact hx.2.1
        · rw [zz_ui_ne _ _ _ (by omega)]; exact hx.2.2.1
        · rw [zz_ui_ne _ _ _ (by omega)]; exact hx.2.2.2.1 x hx2 y hy2
        · rw [zz_ui_at]
          by_cases e : x = a
          · subst e; simp [upd]
          · rw [pk_un e, hx.2.2.2.2.1 x hx2]
            show (if x < a then g x else 0) = if x < a + 1 then g x else 0
            by_cases e2 : x < a
            · rw [if_pos e2, if_pos (by omega)]
            · rw [if_neg e2, if_neg (by omega)]
        · rw [zz_ui_ne _ _ _ (by omega)]; exact hx.2.2.2.2.2 x hx2 i hi
  refine outer n 0 I _ (by omega) FC.rf ?_
  rw [se_0]
  simpa using hc
/-- what told leaves on the class's side -/
theorem sp_X9_told (d : Nat) (hO : OK M) {l : Int32} {n : Nat} {by_ : Nat → Nat} (hn : I 2 1 = nI n) (hn2 : n ≤ 600) (hby : ∀ i, i < n → by_ i < 256 ∧ I 3 i = nI (by_ i))
    (h1 : ∀ j f p, j < 8 → l = nI j → prs by_ n n 0 0 [] = .inl (f, p) → ∀ I' : zz_I, (∀ c, c ≠ 2 → c ≠ 4 → c ≠ 5 → I' c = I c) → I' 2 1 = 0 → I' 4 2 = f → I' 4 3 = p → Q (some (.int (-1))) M I' J)
    (h2 : ∀ j L, j < 8 → l = nI j → prs by_ n n 0 0 [] = .inr L → ∀ I' : zz_I, (∀ c, c ≠ 2 → c ≠ 4 → c ≠ 5 → (c < LN j ∨ LN j + 29 ≤ c) → I' c = I c) → I' 2 1 = 0 → I' 4 2 = 0 → I' 4 3 = -1 → CL I' j L.length 1 (I (LN j) 2 + 1) (se (fun i => L.getD i 0) L.length 0) (fun a => if a < L.length then L.getD a 0 else 0) (fun _ _ => 0) → Q (some (.int (nI L.length))) M I' J)
    (h3 : ¬ vp_in l 8 → Q (some (.int (-2))) M (zz_ui I 2 1 0) J) : zz_D mX9_told (d + 2) [.ref 1, .int l] M I J Q := by
  refine zz_D_of rfl (Nat.le_of_ble_eq_true rfl) ?_
  try dsimp only [zz_s1, zz_s2, zz_kill, zz_ent, zz_fl, List.set_cons_zero, List.set_cons_succ, List.getElem?_cons_zero, List.getElem?_cons_succ, Option.toList_some, Option.toList_none, List.cons_append, List.nil_append, List.append_nil, List.length_cons, List.length_nil, List.replicate_succ, List.replicate_zero, Nat.reduceAdd, Nat.reduceSub]
  refine zz_aload_n rfl dX9_told_0 ?_
  refine zz_iload_n rfl dX9_told_1 ?_
  try dsimp only [zz_s1, zz_s2, zz_kill, zz_ent, zz_fl, List.set_cons_zero, List.set_cons_succ, List.getElem?_cons_zero, List.getElem?_cons_succ, Option.toList_some, Option.toList_none, List.cons_append, List.nil_append, List.append_nil, List.length_cons, List.length_nil, List.replicate_succ, List.replicate_zero, Nat.reduceAdd, Nat.reduceSub]
  refine zz_cV1 dX9_told_2 lX9_100 rfl (os_1 hO) rfl rfl (Nat.le_of_ble_eq_true rfl) (Nat.le_of_ble_eq_true rfl) ?_
  refine sp_lineAt (d + 1) hO (fun j hj e => ?_) (fun hv => ?_)
  try dsimp only [zz_s1, zz_s2, zz_kill, zz_ent, zz_fl, List.set_cons_zero, List.set_cons_succ, List.getElem?_cons_zero, List.getElem?_cons_succ, Option.toList_some, Option.toList_none, List.cons_append, List.nil_append, List.append_nil, List.length_cons, List.length_nil, List.replicate_succ, List.replicate_zero, Nat.reduceAdd, Nat.reduceSub]
  · skip
    refine zz_astore_n dX9_told_5 (by decide) ?_
    refine zz_aload_n rfl dX9_told_6 ?_
    try dsimp only [zz_s1, zz_s2, zz_kill, zz_ent, zz_fl, List.set_cons_zero, List.set_cons_succ, List.getElem?_cons_zero, List.getElem?_cons_succ, Option.toList_some, Option.toList_none, List.cons_append, List.nil_append, List.append_nil, List.length_cons, List.length_nil, List.replicate_succ, List.replicate_zero, Nat.reduceAdd, Nat.reduceSub]
    refine zz_ifnonnull (tgt := 20) dX9_told_7 (by decide) ?_
    have hln : 27 ≤ LN j := by unfold LN; omega
    refine zz_aload_n rfl dX9_told_20 ?_
    refine zz_getr dX9_told_21 fX9_19 (fun _ _ _ _ => rfl) (os_1 hO) (or_1_1 hO) ?_
    refine zz_aload_n rfl dX9_told_24 ?_
    refine zz_getr dX9_told_25 fX9_10 (fun _ _ _ _ => rfl) (os_1 hO) (or_1_0 hO) ?_
    try dsimp only [zz_s1, zz_s2, zz_kill, zz_ent, zz_fl, List.set_cons_zero, List.set_cons_succ, List.getElem?_cons_zero, List.getElem?_cons_succ, Option.toList_some, Option.toList_none, List.cons_append, List.nil_append, List.append_nil, List.length_cons, List.length_nil, List.replicate_succ, List.replicate_zero, Nat.reduceAdd, Nat.reduceSub]
    refine zz_cV1 dX9_told_28 lX9_127 rfl (os_4 hO) rfl rfl (Nat.le_of_ble_eq_true rfl) (Nat.le_of_ble_eq_true rfl) ?_
    refine sp_X8_read d hO hn hn2 hby (fun I1 a1 a2 => ?_)
    try dsimp only [zz_s1, zz_s2, zz_kill, zz_ent, zz_fl, List.set_cons_zero, List.set_cons_succ, List.getElem?_cons_zero, List.getElem?_cons_succ, Option.toList_some, Option.toList_none, List.cons_append, List.nil_append, List.append_nil, List.length_cons, List.length_nil, List.replicate_succ, List.replicate_zero, Nat.reduceAdd, Nat.reduceSub]
    refine zz_aload_n rfl dX9_told_31 ?_
    refine zz_getr dX9_told_32 fX9_10 (fun _ _ _ _ => rfl) (os_1 hO) (or_1_0 hO) ?_
    try dsimp only [zz_s1, zz_s2, zz_kill, zz_ent, zz_fl, List.set_cons_zero, List.set_cons_succ, List.getElem?_cons_zero, List.getElem?_cons_succ, Option.toList_some, Option.toList_none, List.cons_append, List.nil_append, List.append_nil, List.length_cons, List.length_nil, List.replicate_succ, List.replicate_zero, Nat.reduceAdd, Nat.reduceSub]
    refine zz_cV0 dX9_told_35 lX9_124 rfl (os_2 hO) rfl rfl (Nat.le_of_ble_eq_true rfl) (Nat.le_of_ble_eq_true rfl) ?_
    refine sp_X7_empty (d + 1) hO ?_
    try dsimp only [zz_s1, zz_s2, zz_kill, zz_ent, zz_fl, List.set_cons_zero, List.set_cons_succ, List.getElem?_cons_zero, List.getElem?_cons_succ, Option.toList_some, Option.toList_none, List.cons_append, List.nil_append, List.append_nil, List.length_cons, List.length_nil, List.replicate_succ, List.replicate_zero, Nat.reduceAdd, Nat.reduceSub]
    refine zz_aload_n rfl dX9_told_38 ?_
    refine zz_getr dX9_told_39 fX9_19 (fun _ _ _ _ => rfl) (os_1 hO) (or_1_1 hO) ?_
    refine zz_geti dX9_told_42 fX9_131 rfl (os_4 hO) ?_
    try dsimp only [zz_s1, zz_s2, zz_kill, zz_ent, zz_fl, List.set_cons_zero, List.set_cons_succ, List.getElem?_cons_zero, List.getElem?_cons_succ, Option.toList_some, Option.toList_none, List.cons_append, List.nil_append, List.append_nil, List.length_cons, List.length_nil, List.replicate_succ, List.replicate_zero, Nat.reduceAdd, Nat.reduceSub]
    cases hp : prs by_ n n 0 0 [] with
    | inl fp =>
      obtain ⟨f, p⟩ := fp
      rw [hp] at a2
      obtain ⟨b1, b2, b3⟩ := a2
      rw [zz_ui_ne _ _ _ (show (4 : Nat) ≠ 2 by decide), b1]
      refine zz_if_eq (tgt := 50) dX9_told_45 (by decide) (fun h4 => ?_) (fun h4 => ?_)
      · exact absurd h4 b3
      · skip
        refine zz_iconst (v := (-1)) (by decide) dX9_told_48 ?_
        refine zz_ireturn dX9_told_49 rfl (by first | rfl | decide | assumption) ?_
        refine h1 j f p hj e hp _ (fun c c1 c2 c3 => ?_) ?_ ?_ ?_
        · rw [zz_ui_ne _ _ _ c1]; exact a1 c c2 c3
        · simp [zz_ui_at, upd]
        · rw [zz_ui_ne _ _ _ (by decide)]; exact b1
        · rw [zz_ui_ne _ _ _ (by decide)]; exact b2
    | inr L =>
      rw [hp] at a2
      obtain ⟨b1, b2, b3, b4⟩ := a2
      have hL := prs_len by_ n n 0 0 [] L (by simp) hp
      rw [zz_ui_ne _ _ _ (show (4 : Nat) ≠ 2 by decide), b1]
      refine zz_if_eq (tgt := 50) dX9_told_45 (by decide) (fun h4 => ?_) (fun h4 => ?_)
      · refine zz_aload_n rfl dX9_told_50 ?_
        refine zz_iconst (v := 1) (by decide) dX9_told_51 ?_
        refine zz_aload_n rfl dX9_told_52 ?_
        refine zz_getr dX9_told_53 fX9_19 (fun _ _ _ _ => rfl) (os_1 hO) (or_1_1 hO) ?_
        refine zz_geti dX9_told_56 fX9_134 rfl (os_4 hO) ?_
        try dsimp only [zz_s1, zz_s2, zz_kill, zz_ent, zz_fl, List.set_cons_zero, List.set_cons_succ, List.getElem?_cons_zero, List.getElem?_cons_succ, Option.toList_some, Option.toList_none, List.cons_append, List.nil_append, List.append_nil, List.length_cons, List.length_nil, List.replicate_succ, List.replicate_zero, Nat.reduceAdd, Nat.reduceSub]
        rw [zz_ui_ne _ _ _ (show (4 : Nat) ≠ 2 by decide), b3]
        refine zz_cV2 dX9_told_59 lX9_104 rfl (ol_obj hO hj) rfl rfl (Nat.le_of_ble_eq_true rfl) (Nat.le_of_ble_eq_true rfl) ?_
        refine sp_X3_renew d hO hj (fun I2 k1 k2 => ?_)
        try dsimp only [zz_s1, zz_s2, zz_kill, zz_ent, zz_fl, List.set_cons_zero, List.set_cons_succ, List.getElem?_cons_zero, List.getElem?_cons_succ, Option.toList_some, Option.toList_none, List.cons_append, List.nil_append, List.append_nil, List.length_cons, List.length_nil, List.replicate_succ, List.replicate_zero, Nat.reduceAdd, Nat.reduceSub]
        have eg : ∀ c, c < LN j → I2 c = zz_ui I1 2 1 0 c := fun c hc => k1 c (Or.inl hc)
        refine zz_aload_n rfl dX9_told_62 ?_
        refine zz_aload_n rfl dX9_told_63 ?_
        refine zz_getr dX9_told_64 fX9_19 (fun _ _ _ _ => rfl) (os_1 hO) (or_1_1 hO) ?_
        refine zz_getr dX9_told_67 fX9_137 (fun _ _ _ _ => rfl) (os_4 hO) (or_4_0 hO) ?_
        try dsimp only [zz_s1, zz_s2, zz_kill, zz_ent, zz_fl, List.set_cons_zero, List.set_cons_succ, List.getElem?_cons_zero, List.getElem?_cons_succ, Option.toList_some, Option.toList_none, List.cons_append, List.nil_append, List.append_nil, List.length_cons, List.length_nil, List.replicate_succ, List.replicate_zero, Nat.reduceAdd, Nat.reduceSub]
        refine zz_cV1 dX9_told_70 lX9_140 rfl (ol_obj hO hj) rfl rfl (Nat.le_of_ble_eq_true rfl) (Nat.le_of_ble_eq_true rfl) ?_
        refine sp_X3_takeSigns d hO (g := fun i => L.getD i 0) hj hL.2 k2 (fun i hi => by rw [eg 5 (by omega), zz_ui_ne _ _ _ (by decide)]; exact b4 i hi) (fun I3 m1 m2 => ?_)
        try dsimp only [zz_s1, zz_s2, zz_kill, zz_ent, zz_fl, List.set_cons_zero, List.set_cons_succ, List.getElem?_cons_zero, List.getElem?_cons_succ, Option.toList_some, Option.toList_none, List.cons_append, List.nil_append, List.append_nil, List.length_cons, List.length_nil, List.replicate_succ, List.replicate_zero, Nat.reduceAdd, Nat.reduceSub]
        refine zz_aload_n rfl dX9_told_73 ?_
        refine zz_geti dX9_told_74 fX9_144 rfl (ol_obj hO hj) ?_
        refine zz_ireturn dX9_told_77 rfl (by first | rfl | decide | assumption) ?_
        rw [m2.2.1]
        have e3 : ∀ c, (c < LN j ∨ LN j + 29 ≤ c) → I3 c = zz_ui I1 2 1 0 c := fun c hc => (m1 c hc).trans (k1 c hc)
        have e263 : zz_ui I1 2 1 0 (LN j) 2 = I (LN j) 2 := by rw [zz_ui_ne _ _ _ (by omega), a1 _ (by omega) (by omega)]
        rw [e263] at m2
        refine h2 j L hj e hp I3 (fun c c1 c2 c3 c4 => ?_) ?_ ?_ ?_ m2
        · rw [e3 c c4, zz_ui_ne _ _ _ c1]; exact a1 c c2 c3
        · rw [e3 2 (by omega)]; simp [zz_ui_at, upd]
        · rw [e3 4 (by omega), zz_ui_ne _ _ _ (by decide)]; exact b1
        · rw [e3 4 (by omega), zz_ui_ne _ _ _ (by decide)]; exact b2
      · exact absurd rfl h4
  · try dsimp only [zz_s1, zz_s2, zz_kill, zz_ent, zz_fl, List.set_cons_zero, List.set_cons_succ, List.getElem?_cons_zero, List.getElem?_cons_succ, Option.toList_some, Option.toList_none, List.cons_append, List.nil_append, List.append_nil, List.length_cons, List.length_nil, List.replicate_succ, List.replicate_zero, Nat.reduceAdd, Nat.reduceSub]
    refine zz_nstore_n dX9_told_5 (by decide) ?_
    refine zz_nload_n rfl dX9_told_6 ?_
    try dsimp only [zz_s1, zz_s2, zz_kill, zz_ent, zz_fl, List.set_cons_zero, List.set_cons_succ, List.getElem?_cons_zero, List.getElem?_cons_succ, Option.toList_some, Option.toList_none, List.cons_append, List.nil_append, List.append_nil, List.length_cons, List.length_nil, List.replicate_succ, List.replicate_zero, Nat.reduceAdd, Nat.reduceSub]
    refine zz_ifnonnullN dX9_told_7 ?_
    try dsimp only [zz_s1, zz_s2, zz_kill, zz_ent, zz_fl, List.set_cons_zero, List.set_cons_succ, List.getElem?_cons_zero, List.getElem?_cons_succ, Option.toList_some, Option.toList_none, List.cons_append, List.nil_append, List.append_nil, List.length_cons, List.length_nil, List.replicate_succ, List.replicate_zero, Nat.reduceAdd, Nat.reduceSub]
    refine zz_aload_n rfl dX9_told_10 ?_
    refine zz_getr dX9_told_11 fX9_10 (fun _ _ _ _ => rfl) (os_1 hO) (or_1_0 hO) ?_
    try dsimp only [zz_s1, zz_s2, zz_kill, zz_ent, zz_fl, List.set_cons_zero, List.set_cons_succ, List.getElem?_cons_zero, List.getElem?_cons_succ, Option.toList_some, Option.toList_none, List.cons_append, List.nil_append, List.append_nil, List.length_cons, List.length_nil, List.replicate_succ, List.replicate_zero, Nat.reduceAdd, Nat.reduceSub]
    refine zz_cV0 dX9_told_14 lX9_124 rfl (os_2 hO) rfl rfl (Nat.le_of_ble_eq_true rfl) (Nat.le_of_ble_eq_true rfl) ?_
    refine sp_X7_empty (d + 1) hO ?_
    try dsimp only [zz_s1, zz_s2, zz_kill, zz_ent, zz_fl, List.set_cons_zero, List.set_cons_succ, List.getElem?_cons_zero, List.getElem?_cons_succ, Option.toList_some, Option.toList_none, List.cons_append, List.nil_append, List.append_nil, List.length_cons, List.length_nil, List.replicate_succ, List.replicate_zero, Nat.reduceAdd, Nat.reduceSub]
    refine zz_bipush (v := (-2)) (by decide) dX9_told_17 ?_
    refine zz_ireturn dX9_told_19 rfl (by first | rfl | decide | assumption) ?_
    exact h3 hv
theorem sp_wrong (d : Nat) (hO : OK M) {a b : Int32} (hQ : Q (some (.int (-1))) M (zz_ui (zz_ui I 259 8 a) 259 9 b) J) : zz_D mX10_wrong d [.ref 259, .int a, .int b] M I J Q := by
  refine zz_D_of rfl (Nat.le_of_ble_eq_true rfl) ?_
  try dsimp only [zz_s1, zz_s2, zz_kill, zz_ent, zz_fl, List.set_cons_zero, List.set_cons_succ, List.getElem?_cons_zero, List.getElem?_cons_succ, Option.toList_some, Option.toList_none, List.cons_append, List.nil_append, List.append_nil, List.length_cons, List.length_nil, List.replicate_succ, List.replicate_zero, Nat.reduceAdd, Nat.reduceSub]
  refine zz_aload_n rfl dX10_wrong_0 ?_
  refine zz_iload_n rfl dX10_wrong_1 ?_
  refine zz_puti dX10_wrong_2 fX10_118 rfl (fun q h => by cases h; rfl) (os_259 hO) ?_
  refine zz_aload_n rfl dX10_wrong_5 ?_
  refine zz_iload_n rfl dX10_wrong_6 ?_
  refine zz_puti dX10_wrong_7 fX10_32 rfl (fun q h => by cases h; rfl) (os_259 hO) ?_
  refine zz_iconst (v := (-1)) (by decide) dX10_wrong_10 ?_
  refine zz_ireturn dX10_wrong_11 rfl (by first | rfl | decide | assumption) ?_
  exact hQ
end PTold

