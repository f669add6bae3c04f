/-! ===== both, either ===== -/
def vr (o : Option Nat) : Value := match o with
  | none => .null
  | some a => .ref a
section ZQ
variable {y : zz_Y} {d k pc : Nat} {ls : List (Option Value)} {st : List Value} {M : zz_M} {I : zz_I} {J : zz_J} {Q : zz_Q}
theorem zz_astoreQ {n : Nat} {o : Option Nat} (hd : decode y.2.1 pc = .ok (.astore n, 2)) (hn : n < y.2.2.1) (hk : zz_kill ls n = ls) (kk : zz_G y d k (pc + 2) (ls.set n (some (vr o))) st M I J Q) : zz_G y d k pc ls (vr o :: st) M I J Q := by
  have e : zz_s1 ls n (vr o) = ls.set n (some (vr o)) := by unfold zz_s1; rw [hk]
  rw [← e] at kk
  cases o with
  | none => exact zz_nstore hd hn kk
  | some a => exact zz_astore hd hn kk
end ZQ
/-- the same letter, or mistaken -/
def lk (E : Nat → Nat → Bool) (a b : Nat) : Prop := a = b ∨ E a b = true
/-- pairs of letters -/
def bE (n1 n2 : Nat) (E1 E2 : Nat → Nat → Bool) : Nat → Nat → Bool := fun x y => decide (x < n1 * n2 ∧ y < n1 * n2 ∧ x ≠ y) && (decide (x / n2 = y / n2) || E1 (x / n2) (y / n2)) && (decide (x % n2 = y % n2) || E2 (x % n2) (y % n2))
theorem bE_iff {n1 n2 : Nat} {E1 E2 : Nat → Nat → Bool} {x y : Nat} : bE n1 n2 E1 E2 x y = true ↔ (x < n1 * n2 ∧ y < n1 * n2 ∧ x ≠ y) ∧ lk E1 (x / n2) (y / n2) ∧ lk E2 (x % n2) (y % n2) := by
  unfold bE lk
  simp only [Bool.and_eq_true, Bool.or_eq_true, decide_eq_true_eq, and_assoc]
/-- letters of two lines beside each other -/
def eE (n1 n2 : Nat) (E1 E2 : Nat → Nat → Bool) : Nat → Nat → Bool := fun x y => if x < n1 then decide (y < n1) && E1 x y else decide (x < n1 + n2 ∧ n1 ≤ y) && E2 (x - n1) (y - n1)
/-- who is mistaken lies within the line -/
def wfE (n : Nat) (E : Nat → Nat → Bool) : Prop := ∀ x y, E x y = true → x < n ∧ y < n ∧ x ≠ y ∧ E y x = true
section PBoth
variable {M : zz_M} {I : zz_I} {J : zz_J} {Q : zz_Q} {n : Nat → Nat} {kd ag : Nat → Int32} {E : Nat → Nat → Nat → Bool} {sg : Nat → Nat → Int32} {rw : Nat → Nat → Nat → Int32}
theorem sp_lineAtQ (d : Nat) (hO : OK M) {l : Int32} (hQ : ∀ o : Option Nat, (o = none ∧ ¬ vp_in l 8) ∨ (∃ j, j < 8 ∧ l = nI j ∧ o = some (LN j)) → Q (some (vr o)) M I J) : zz_D mX9_lineAt d [.ref 1, .int l] M I J Q :=
  sp_lineAt d hO (fun j hj e => hQ (some (LN j)) (Or.inr ⟨j, hj, e, rfl⟩)) (fun h => hQ none (Or.inl ⟨rfl, h⟩))
theorem sp_X3_takeNear (d : Nat) (hO : OK M) {l m : Nat} {k g : Int32} {E : Nat → Nat → Bool} {s : Nat → Int32} {r : Nat → Nat → Int32} (hl : l < 8) (hm : m ≤ 24) (hc : CL I l m k g (fun _ _ => false) s r) (hE : ∀ a, a < m → ∀ b, b < 32 → bt (I 7 a) b = E a b) (hE0 : ∀ a b, m ≤ a → E a b = false) (hQ : ∀ I' : zz_I, FC l I I' → CL I' l m k g E s r → Q none M I' J) : zz_D mX3_takeNear d [.ref (LN l), .ref 7] M I J Q := by
  have h7 : 7 < LN l := by unfold LN; omega
  refine zz_D_of rfl (Nat.le_of_ble_eq_true rfl) ?_
  try dsimp only [zz_s1, zz_s2, zz_kill, zz_ent, zz_fl, List.set_cons_zero, List.set_cons_succ, List.getElem?_cons_zero, List.getElem?_cons_succ, Option.toList_some, Option.toList_none, List.cons_append, List.nil_append, List.append_nil, List.length_cons, List.length_nil, List.replicate_succ, List.replicate_zero, Nat.reduceAdd, Nat.reduceSub]
  refine zz_iconst (v := 0) (by decide) dX3_takeNear_0 ?_
  refine zz_istore_n dX3_takeNear_1 (by decide) ?_
  try dsimp only [zz_s1, zz_s2, zz_kill, zz_ent, zz_fl, List.set_cons_zero, List.set_cons_succ, List.getElem?_cons_zero, List.getElem?_cons_succ, Option.toList_some, Option.toList_none, List.cons_append, List.nil_append, List.append_nil, List.length_cons, List.length_nil, List.replicate_succ, List.replicate_zero, Nat.reduceAdd, Nat.reduceSub]
  have loop : ∀ (q a : Nat) (Ix : zz_I), a + q = m → FC l I Ix → CL Ix l m k g (fun x y => decide (x < a) && E x y) s r → zz_G mX3_takeNear d 0 2 [some (.ref (LN l)), some (.ref 7), some (.int (nI a))] [] M Ix J Q := by
    intro q
    induction q with
    | zero =>
      intro a Ix ha hf hx
      have ea : a = m := by omega
      subst ea
      refine zz_iload_n rfl dX3_takeNear_2 ?_
      refine zz_aload_n rfl dX3_takeNear_3 ?_
      refine zz_geti dX3_takeNear_4 fX3_15 rfl (ol_obj hO hl) ?_
      try dsimp only [zz_s1, zz_s2, zz_kill, zz_ent, zz_fl, List.set_cons_zero, List.set_cons_succ, List.getElem?_cons_zero, List.getElem?_cons_succ, Option.toList_some, Option.toList_none, List.cons_append, List.nil_append, List.append_nil, List.length_cons, List.length_nil, List.replicate_succ, List.replicate_zero, Nat.reduceAdd, Nat.reduceSub]
      rw [hx.2.1]
      refine zz_icmp_ge (tgt := 25) dX3_takeNear_7 (by decide) (fun h => ?_) (fun h => ?_)
      · refine zz_return dX3_takeNear_25 rfl ?_
        refine hQ Ix hf ⟨hx.1, hx.2.1, hx.2.2.1, fun x hx2 y hy2 => ?_, hx.2.2.2.2⟩
        rw [hx.2.2.2.1 x hx2 y hy2]
        by_cases c : x < a
        · simp [c]
        · have z := hE0 x y (by omega)
          simp [z]
      · exact absurd (nI_le (Nat.le_refl a) (by omega)) h
    | succ q ih =>
      intro a Ix ha hf hx
      refine zz_iload_n rfl dX3_takeNear_2 ?_
      refine zz_aload_n rfl dX3_takeNear_3 ?_
      refine zz_geti dX3_takeNear_4 fX3_15 rfl (ol_obj hO hl) ?_
      try dsimp only [zz_s1, zz_s2, zz_kill, zz_ent, zz_fl, List.set_cons_zero, List.set_cons_succ, List.getElem?_cons_zero, List.getElem?_cons_succ, Option.toList_some, Option.toList_none, List.cons_append, List.nil_append, List.append_nil, List.length_cons, List.length_nil, List.replicate_succ, List.replicate_zero, Nat.reduceAdd, Nat.reduceSub]
      rw [hx.2.1]
      refine zz_icmp_ge (tgt := 25) dX3_takeNear_7 (by decide) (fun h => ?_) (fun h => ?_)
      · exact absurd h (nI_ge (by omega) (by omega))
      · skip
        refine zz_aload_n rfl dX3_takeNear_10 ?_
        refine zz_getr dX3_takeNear_11 fX3_21 (fun _ _ _ _ => rfl) (ol_obj hO hl) (olr_near hO hl) ?_
        refine zz_iload_n rfl dX3_takeNear_14 ?_
        refine zz_aload_n rfl dX3_takeNear_15 ?_
        refine zz_iload_n rfl dX3_takeNear_16 ?_
        refine zz_iald dX3_takeNear_17 (os_7 hO) (vp_in_nI (by omega) (by decide)) ?_
        refine zz_iast dX3_takeNear_18 (ol_near hO hl) (vp_in_nI (by omega) (by decide)) ?_
        refine zz_iinc dX3_takeNear_19 rfl (congrArg (HAdd.hAdd _) (show Int32.ofInt 1 = 1 by decide)) (by decide) ?_
        refine zz_goto (tgt := 2) dX3_takeNear_22 (by decide) ?_
        try dsimp only [zz_s1, zz_s2, zz_kill, zz_ent, zz_fl, List.set_cons_zero, List.set_cons_succ, List.getElem?_cons_zero, List.getElem?_cons_succ, Option.toList_some, Option.toList_none, List.cons_append, List.nil_append, List.append_nil, List.length_cons, List.length_nil, List.replicate_succ, List.replicate_zero, Nat.reduceAdd, Nat.reduceSub]
        rw [nI_1, nI_clamp (by omega), hf 7 (Or.inl h7)]
        refine ih (a + 1) _ (by omega) (FC.tr hf (fun c hc => zz_ui_ne _ _ _ (by omega))) ⟨?_, ?_, ?_, fun x hx2 y hy2 => ?_, fun x hx2 => ?_, fun x hx2 i hi => ?_⟩
        · rw [zz_ui_ne _ _ _ (by omega)]; exact hx.1
        · rw [zz_ui_ne _ _ _ (by omega)]; exact hx.2.1
        · rw [zz_ui_ne _ _ _ (by omega)]; exact hx.2.2.1
        · rw [zz_ui_at]
          by_cases e : x = a
          · subst e
            rw [pk_us, hE x (by omega) y hy2]
            simp
          · rw [pk_un e, hx.2.2.2.1 x hx2 y hy2]
            by_cases c : x < a
            · simp [c, show x < a + 1 by omega]
            · simp [c, show ¬ x < a + 1 by omega]
        · rw [zz_ui_ne _ _ _ (by omega)]; exact hx.2.2.2.2.1 x hx2
        · rw [zz_ui_ne _ _ _ (by omega)]; exact hx.2.2.2.2.2 x hx2 i hi
  refine loop m 0 I (by omega) FC.rf ?_
  simpa using hc
theorem ab_dm {n2 c e : Nat} (he : e < n2) : (c * n2 + e) / n2 = c ∧ (c * n2 + e) % n2 = e := by
  have h0 : 0 < n2 := by omega
  constructor
  · rw [Nat.mul_comm, Nat.mul_add_div h0, Nat.div_eq_of_lt he, Nat.add_zero]
  · rw [Nat.mul_comm, Nat.mul_add_mod, Nat.mod_eq_of_lt he]
theorem dm_lt {n1 n2 y : Nat} (h : y < n1 * n2) : y / n2 < n1 ∧ y % n2 < n2 := by
  have h0 : 0 < n2 := by
    refine Nat.pos_of_ne_zero fun q => ?_
    rw [q, Nat.mul_zero] at h
    omega
  exact ⟨Nat.div_lt_of_lt_mul (by rw [Nat.mul_comm]; exact h), Nat.mod_lt _ h0⟩
theorem dm_eq (y n2 : Nat) : y / n2 * n2 + y % n2 = y := by rw [Nat.mul_comm]; exact Nat.div_add_mod y n2
/-- pairsNear: bit y stands if the pair y is like the pair (a, b) -/
theorem sp_pairsNear (d : Nat) (hO : OK M) {l m a b n1 n2 : Nat} {E1 E2 : Nat → Nat → Bool} (hl : l < 8) (hm : m < 8) (h1 : I (LN l) 1 = nI n1) (h2 : I (LN m) 1 = nI n2) (hn : n1 * n2 ≤ 24) (hn1 : n1 ≤ 24) (hn2 : n2 ≤ 24) (ha : a < n1) (hb : b < n2) (hE1 : ∀ a, a < 24 → ∀ b, b < 32 → bt (I (LN l + 1) a) b = E1 a b) (hE2 : ∀ a, a < 24 → ∀ b, b < 32 → bt (I (LN m + 1) a) b = E2 a b) (hw : wfE n2 E2) (hQ : ∀ r : Int32, (∀ y, y < 32 → (bt r y = true ↔ y < n1 * n2 ∧ lk E1 a (y / n2) ∧ lk E2 b (y % n2))) → Q (some (.int r)) M I J) : zz_D mX9_pairsNear (d + 2) [.ref (LN l), .int (nI a), .ref (LN m), .int (nI b)] M I J Q := by
  refine zz_D_of rfl (Nat.le_of_ble_eq_true rfl) ?_
  try dsimp only [zz_s1, zz_s2, zz_kill, zz_ent, zz_fl, List.set_cons_zero, List.set_cons_succ, List.getElem?_cons_zero, List.getElem?_cons_succ, Option.toList_some, Option.toList_none, List.cons_append, List.nil_append, List.append_nil, List.length_cons, List.length_nil, List.replicate_succ, List.replicate_zero, Nat.reduceAdd, Nat.reduceSub]
  refine zz_iconst (v := 0) (by decide) dX9_pairsNear_0 ?_
  refine zz_istore dX9_pairsNear_1 (by decide) ?_
  refine zz_iconst (v := 0) (by decide) dX9_pairsNear_3 ?_
  refine zz_istore dX9_pairsNear_4 (by decide) ?_
  try dsimp only [zz_s1, zz_s2, zz_kill, zz_ent, zz_fl, List.set_cons_zero, List.set_cons_succ, List.getElem?_cons_zero, List.getElem?_cons_succ, Option.toList_some, Option.toList_none, List.cons_append, List.nil_append, List.append_nil, List.length_cons, List.length_nil, List.replicate_succ, List.replicate_zero, Nat.reduceAdd, Nat.reduceSub]
  have loop : ∀ (q c : Nat) (r : Int32), c + q = n1 → (∀ y, y < 32 → (bt r y = true ↔ y < c * n2 ∧ lk E1 a (y / n2) ∧ lk E2 b (y % n2))) → zz_G mX9_pairsNear (d + 2) 0 6 [some (.ref (LN l)), some (.int (nI a)), some (.ref (LN m)), some (.int (nI b)), some (.int r), some (.int (nI c))] [] M I J Q := by
    intro q
    induction q with
    | zero =>
      intro c r hc hr
      have ec : c = n1 := by omega
      subst ec
      refine zz_iload rfl dX9_pairsNear_6 ?_
      refine zz_aload_n rfl dX9_pairsNear_8 ?_
      refine zz_geti dX9_pairsNear_9 fX9_144 rfl (ol_obj hO hl) ?_
      try dsimp only [zz_s1, zz_s2, zz_kill, zz_ent, zz_fl, List.set_cons_zero, List.set_cons_succ, List.getElem?_cons_zero, List.getElem?_cons_succ, Option.toList_some, Option.toList_none, List.cons_append, List.nil_append, List.append_nil, List.length_cons, List.length_nil, List.replicate_succ, List.replicate_zero, Nat.reduceAdd, Nat.reduceSub]
      rw [h1]
      refine zz_icmp_ge (tgt := 54) dX9_pairsNear_12 (by decide) (fun h => ?_) (fun h => ?_)
      · refine zz_iload rfl dX9_pairsNear_54 ?_
        refine zz_ireturn dX9_pairsNear_56 rfl (by first | rfl | decide | assumption) ?_
        exact hQ r hr
      · exact absurd (nI_le (Nat.le_refl c) (by omega)) h
    | succ q ih =>
      intro c r hc hr
      have hcn : (c + 1) * n2 ≤ 24 := Nat.le_trans (Nat.mul_le_mul_right _ (by omega)) hn
      have hc1 : (c + 1) * n2 = c * n2 + n2 := Nat.succ_mul c n2
      refine zz_iload rfl dX9_pairsNear_6 ?_
      refine zz_aload_n rfl dX9_pairsNear_8 ?_
      refine zz_geti dX9_pairsNear_9 fX9_144 rfl (ol_obj hO hl) ?_
      try dsimp only [zz_s1, zz_s2, zz_kill, zz_ent, zz_fl, List.set_cons_zero, List.set_cons_succ, List.getElem?_cons_zero, List.getElem?_cons_succ, Option.toList_some, Option.toList_none, List.cons_append, List.nil_append, List.append_nil, List.length_cons, List.length_nil, List.replicate_succ, List.replicate_zero, Nat.reduceAdd, Nat.reduceSub]
      rw [h1]
      refine zz_icmp_ge (tgt := 54) dX9_pairsNear_12 (by decide) (fun h => ?_) (fun h => ?_)
      · exact absurd h (nI_ge (by omega) (by omega))
      · skip
        refine zz_aload_n rfl dX9_pairsNear_15 ?_
        refine zz_iload_n rfl dX9_pairsNear_16 ?_
        refine zz_iload rfl dX9_pairsNear_17 ?_
        try dsimp only [zz_s1, zz_s2, zz_kill, zz_ent, zz_fl, List.set_cons_zero, List.set_cons_succ, List.getElem?_cons_zero, List.getElem?_cons_succ, Option.toList_some, Option.toList_none, List.cons_append, List.nil_append, List.append_nil, List.length_cons, List.length_nil, List.replicate_succ, List.replicate_zero, Nat.reduceAdd, Nat.reduceSub]
        refine zz_cV2 dX9_pairsNear_19 lX9_179 rfl (ol_obj hO hl) rfl rfl (Nat.le_of_ble_eq_true rfl) (Nat.le_of_ble_eq_true rfl) ?_
        refine sp_X3_alike d hO hl (vp_in_nI (show a < 24 by omega) (by decide)) (fun r2 hr2 => ?_)
        try dsimp only [zz_s1, zz_s2, zz_kill, zz_ent, zz_fl, List.set_cons_zero, List.set_cons_succ, List.getElem?_cons_zero, List.getElem?_cons_succ, Option.toList_some, Option.toList_none, List.cons_append, List.nil_append, List.append_nil, List.length_cons, List.length_nil, List.replicate_succ, List.replicate_zero, Nat.reduceAdd, Nat.reduceSub]
        have hr2 : bo r2 (lk E1 a c) := bo.iff hr2 (by
          rw [nI_clamp (by omega), nI_eq (by omega) (by omega), bt1_iff _ (by omega), hE1 a (by omega) c (by omega)]
          exact Iff.rfl)
        refine zz_if_eq (tgt := 48) dX9_pairsNear_22 (by decide) (fun h5 => ?_) (fun h5 => ?_)
        · refine zz_iinc dX9_pairsNear_48 rfl (congrArg (HAdd.hAdd _) (show Int32.ofInt 1 = 1 by decide)) (by decide) ?_
          refine zz_goto (tgt := 6) dX9_pairsNear_51 (by decide) ?_
          try dsimp only [zz_s1, zz_s2, zz_kill, zz_ent, zz_fl, List.set_cons_zero, List.set_cons_succ, List.getElem?_cons_zero, List.getElem?_cons_succ, Option.toList_some, Option.toList_none, List.cons_append, List.nil_append, List.append_nil, List.length_cons, List.length_nil, List.replicate_succ, List.replicate_zero, Nat.reduceAdd, Nat.reduceSub]
          rw [nI_1]
          refine ih (c + 1) r (by omega) (fun y hy => ?_)
          rw [hr y hy, hc1]
          constructor
          · exact fun q => ⟨by omega, q.2⟩
          · intro q
            refine ⟨Nat.lt_of_not_le fun z => hr2.f h5 ?_, q.2⟩
            have : y / n2 = c := (ab_dm (n2 := n2) (c := c) (e := y - c * n2) (by omega)).1 ▸ (by rw [show c * n2 + (y - c * n2) = y by omega])
            rw [← this]; exact q.2.1
        · skip
          refine zz_iload rfl dX9_pairsNear_25 ?_
          refine zz_aload_n rfl dX9_pairsNear_27 ?_
          refine zz_getr dX9_pairsNear_28 fX9_155 (fun _ _ _ _ => rfl) (ol_obj hO hm) (olr_near hO hm) ?_
          refine zz_iload_n rfl dX9_pairsNear_31 ?_
          refine zz_iald dX9_pairsNear_32 (ol_near hO hm) (vp_in_nI (show b < 24 by omega) (by decide)) ?_
          refine zz_iconst (v := 1) (by decide) dX9_pairsNear_33 ?_
          refine zz_iload_n rfl dX9_pairsNear_34 ?_
          refine zz_ishl dX9_pairsNear_35 ?_
          refine zz_ior dX9_pairsNear_36 ?_
          refine zz_iload rfl dX9_pairsNear_37 ?_
          refine zz_aload_n rfl dX9_pairsNear_39 ?_
          refine zz_geti dX9_pairsNear_40 fX9_144 rfl (ol_obj hO hm) ?_
          refine zz_imul dX9_pairsNear_43 ?_
          refine zz_ishl dX9_pairsNear_44 ?_
          refine zz_ior dX9_pairsNear_45 ?_
          refine zz_istore dX9_pairsNear_46 (by decide) ?_
          refine zz_iinc dX9_pairsNear_48 rfl (congrArg (HAdd.hAdd _) (show Int32.ofInt 1 = 1 by decide)) (by decide) ?_
          refine zz_goto (tgt := 6) dX9_pairsNear_51 (by decide) ?_
          try dsimp only [zz_s1, zz_s2, zz_kill, zz_ent, zz_fl, List.set_cons_zero, List.set_cons_succ, List.getElem?_cons_zero, List.getElem?_cons_succ, Option.toList_some, Option.toList_none, List.cons_append, List.nil_append, List.append_nil, List.length_cons, List.length_nil, List.replicate_succ, List.replicate_zero, Nat.reduceAdd, Nat.reduceSub]
          rw [nI_1, nI_clamp (by omega), h2, pk_mul]
          refine ih (c + 1) _ (by omega) (fun y hy => ?_)
          rw [b_or, b_shl (c * n2) (by omega) _ hy, Bool.or_eq_true, hr y hy, hc1, Bool.and_eq_true, decide_eq_true_eq]
          constructor
          · rintro (q | ⟨q1, q2⟩)
            · exact ⟨by omega, q.2⟩
            · rw [b_or, hE2 b (by omega) _ (by omega), b_bit (by omega) (by omega), Bool.or_eq_true, decide_eq_true_eq] at q2
              have hlt : y - c * n2 < n2 := q2.elim (fun z => (hw _ _ z).2.1) (fun z => by omega)
              have hdm := ab_dm (n2 := n2) (c := c) (e := y - c * n2) hlt
              rw [show c * n2 + (y - c * n2) = y by omega] at hdm
              rw [hdm.1, hdm.2]
              exact ⟨by omega, hr2.t h5, q2.elim (fun z => Or.inr z) (fun z => Or.inl z.symm)⟩
          · intro q
            by_cases z : y < c * n2
            · exact Or.inl ⟨z, q.2⟩
            · refine Or.inr ⟨by omega, ?_⟩
              have hdm := ab_dm (n2 := n2) (c := c) (e := y - c * n2) (by omega)
              rw [show c * n2 + (y - c * n2) = y by omega] at hdm
              rw [hdm.2] at q
              rw [b_or, hE2 b (by omega) _ (by omega), b_bit (by omega) (by omega), Bool.or_eq_true, decide_eq_true_eq]
              exact q.2.2.elim (fun w => Or.inr w.symm) (fun w => Or.inl w)
  refine loop n1 0 0 (by omega) (fun y hy => ?_)
  rw [b_0]
  simp
end PBoth

