/-! ===== powers in parts ===== -/
/-- the part i of a number, parts below B -/
def dg (B v i : Nat) : Nat := v / B ^ i % B
def cy (B s v k : Nat) : Nat := v % B ^ k * s / B ^ k
theorem dg_part {B : Nat} (hB : 0 < B) (s v k : Nat) : dg B v k * s + cy B s v k = v % B ^ (k + 1) * s / B ^ k := by
  have hp : 0 < B ^ k := Nat.pow_pos hB
  unfold dg cy
  rw [Nat.pow_succ, Nat.mod_mul, Nat.add_mul, Nat.mul_assoc, Nat.add_mul_div_left _ _ hp, Nat.add_comm]
theorem dg_mod {B : Nat} (hB : 0 < B) (s v k : Nat) : (dg B v k * s + cy B s v k) % B = dg B (v * s) k := by
  have hp : 0 < B ^ k := Nat.pow_pos hB
  rw [dg_part hB]
  show _ = v * s / B ^ k % B
  have e : v * s = v % B ^ (k + 1) * s + B ^ k * (B * (v / B ^ (k + 1) * s)) := by
    rw [← Nat.mul_assoc, ← Nat.pow_succ, ← Nat.mul_assoc, ← Nat.add_mul, Nat.mod_add_div]
  rw [e, Nat.add_mul_div_left _ _ hp, Nat.add_mul_mod_self_left]
theorem dg_div {B : Nat} (hB : 0 < B) (s v k : Nat) : (dg B v k * s + cy B s v k) / B = cy B s v (k + 1) := by
  rw [dg_part hB, Nat.div_div_eq_div_mul, ← Nat.pow_succ]
  rfl
theorem cy_le {B : Nat} (hB : 0 < B) (s v k : Nat) : cy B s v k ≤ s := by
  have hp : 0 < B ^ k := Nat.pow_pos hB
  have h1 : v % B ^ k * s ≤ B ^ k * s := Nat.mul_le_mul_right _ (Nat.le_of_lt (Nat.mod_lt _ hp))
  have h2 : v % B ^ k * s / B ^ k ≤ B ^ k * s / B ^ k := Nat.div_le_div_right h1
  rw [Nat.mul_div_cancel_left _ hp] at h2
  exact h2
theorem dg_le {B : Nat} (hB : 0 < B) (s v k : Nat) : dg B v k * s + cy B s v k ≤ B * s := by
  have h1 : dg B v k + 1 ≤ B := Nat.mod_lt _ hB
  have h2 := cy_le hB s v k
  have h3 : (dg B v k + 1) * s ≤ B * s := Nat.mul_le_mul_right _ h1
  rw [Nat.add_mul] at h3
  omega
theorem cy_0 (B s v : Nat) : cy B s v 0 = 0 := by unfold cy; rw [Nat.pow_zero, Nat.mod_one]; simp
theorem dg_0 {B v : Nat} (h : v < B) : dg B v 0 = v := by unfold dg; rw [Nat.pow_zero, Nat.div_one, Nat.mod_eq_of_lt h]
theorem dg_s {B v i : Nat} (h : v < B) (hi : 0 < i) : dg B v i = 0 := by
  unfold dg
  have h1 : v < B ^ i := Nat.lt_of_lt_of_le h (by
    have : B ^ 1 ≤ B ^ i := Nat.pow_le_pow_right (by omega) hi
    rwa [Nat.pow_one] at this)
  rw [Nat.div_eq_of_lt h1, Nat.zero_mod]
theorem dg_lt {B : Nat} (hB : 0 < B) (v i : Nat) : dg B v i < B := Nat.mod_lt _ hB
/-- two numbers held against each other -/
def cmN (v w : Nat) : Int32 := if v < w then -1 else if w < v then 1 else 0
theorem cm_step {B : Nat} {v w q : Nat} (h : v / B ^ (q + 1) = w / B ^ (q + 1)) : (dg B v q = dg B w q → v / B ^ q = w / B ^ q) ∧ (dg B v q < dg B w q → v < w) := by
  have e : ∀ x, x / B ^ q = B * (x / B ^ (q + 1)) + dg B x q := fun x => by
    rw [Nat.pow_succ, ← Nat.div_div_eq_div_mul]
    exact (Nat.div_add_mod _ _).symm
  refine ⟨fun h1 => by rw [e v, e w, h, h1], fun h1 => ?_⟩
  have h2 : v / B ^ q < w / B ^ q := by rw [e v, e w, h]; omega
  exact Nat.lt_of_not_le fun h3 => absurd (Nat.div_le_div_right (c := B ^ q) h3) (by omega)
theorem pw_le {s j : Nat} (hs : s ≤ 1000) (hj : j ≤ 12) : s ^ j ≤ 1000 ^ 12 :=
  Nat.le_trans (Nat.pow_le_pow_left hs j) (Nat.pow_le_pow_right (by decide) hj)
section PPow
variable {M : zz_M} {I : zz_I} {J : zz_J} {Q : zz_Q}
theorem sp_X5_raise (d : Nat) {c s t : Nat} (hs : zz_is M c 2 4) (hs1 : s ≤ 1000) (ht : t ≤ 1000) (hQ : ∀ J' : zz_J, (∀ a, a ≠ c → J' a = J a) → (∀ i, i < 4 → J' c i = lN (dg 1000000000000 (s ^ t) i)) → Q none M I J') : zz_D mX5_raise d [.ref c, .int (nI s), .int (nI t)] M I J Q := by
  refine zz_D_of rfl (Nat.le_of_ble_eq_true rfl) ?_
  try dsimp only [zz_s1, zz_s2, zz_kill, zz_ent, zz_fl, List.set_cons_zero, List.set_cons_succ, List.getElem?_cons_zero, List.getElem?_cons_succ, Option.toList_some, Option.toList_none, List.cons_append, List.nil_append, List.append_nil, List.length_cons, List.length_nil, List.replicate_succ, List.replicate_zero, Nat.reduceAdd, Nat.reduceSub]
  refine zz_iconst (v := 0) (by decide) dX5_raise_0 ?_
  refine zz_istore_n dX5_raise_1 (by decide) ?_
  try dsimp only [zz_s1, zz_s2, zz_kill, zz_ent, zz_fl, List.set_cons_zero, List.set_cons_succ, List.getElem?_cons_zero, List.getElem?_cons_succ, Option.toList_some, Option.toList_none, List.cons_append, List.nil_append, List.append_nil, List.length_cons, List.length_nil, List.replicate_succ, List.replicate_zero, Nat.reduceAdd, Nat.reduceSub]
  have inner : ∀ (q i st v : Nat) (Jx : zz_J) (z7 : Option Value), i + q = 4 → (∀ a, a ≠ c → Jx a = J a) → (∀ j, j < i → Jx c j = lN (dg 1000000000000 (v * s) j)) → (∀ j, i ≤ j → j < 4 → Jx c j = lN (dg 1000000000000 v j)) → (∀ (Jy : zz_J) (z4 z6 z7 : Option Value), (∀ a, a ≠ c → Jy a = J a) → (∀ j, j < 4 → Jy c j = lN (dg 1000000000000 (v * s) j)) → zz_G mX5_raise d 0 80 [some (.ref c), some (.int (nI s)), some (.int (nI t)), some (.int (nI st)), z4, none, z6, z7, none] [] M I Jy Q) → zz_G mX5_raise d 0 38 [some (.ref c), some (.int (nI s)), some (.int (nI t)), some (.int (nI st)), some (.long (lN (cy 1000000000000 s v i))), none, some (.int (nI i)), z7, none] [] M I Jx Q := by
    intro q
    induction q with
    | zero =>
      intro i st v Jx z7 hi f1 f2 f3 hk
      refine zz_iload rfl dX5_raise_38 ?_
      refine zz_iconst (v := 4) (by decide) dX5_raise_40 ?_
      try dsimp only [zz_s1, zz_s2, zz_kill, zz_ent, zz_fl, List.set_cons_zero, List.set_cons_succ, List.getElem?_cons_zero, List.getElem?_cons_succ, Option.toList_some, Option.toList_none, List.cons_append, List.nil_append, List.append_nil, List.length_cons, List.length_nil, List.replicate_succ, List.replicate_zero, Nat.reduceAdd, Nat.reduceSub]
      refine zz_icmp_ge (tgt := 80) dX5_raise_41 (by decide) (fun h => ?_) (fun h => ?_)
      · exact hk Jx _ _ _ f1 (fun j hj => f2 j (by omega))
      · exact absurd (nI_le (a := 4) (b := i) (by omega) (by omega)) h
    | succ q ih =>
      intro i st v Jx z7 hi f1 f2 f3 hk
      have hp := dg_le (B := 1000000000000) (by decide) s v i
      refine zz_iload rfl dX5_raise_38 ?_
      refine zz_iconst (v := 4) (by decide) dX5_raise_40 ?_
      try dsimp only [zz_s1, zz_s2, zz_kill, zz_ent, zz_fl, List.set_cons_zero, List.set_cons_succ, List.getElem?_cons_zero, List.getElem?_cons_succ, Option.toList_some, Option.toList_none, List.cons_append, List.nil_append, List.append_nil, List.length_cons, List.length_nil, List.replicate_succ, List.replicate_zero, Nat.reduceAdd, Nat.reduceSub]
      refine zz_icmp_ge (tgt := 80) dX5_raise_41 (by decide) (fun h => ?_) (fun h => ?_)
      · exact absurd h (nI_ge (b := 4) (by omega) (by decide))
      · skip
        refine zz_aload_n rfl dX5_raise_44 ?_
        refine zz_iload rfl dX5_raise_45 ?_
        refine zz_lald dX5_raise_47 hs (vp_in_nI (by omega) (by decide)) ?_
        refine zz_iload_n rfl dX5_raise_48 ?_
        refine zz_i2l dX5_raise_49 ?_
        refine zz_lmul dX5_raise_50 ?_
        refine zz_lload rfl dX5_raise_51 ?_
        refine zz_ladd dX5_raise_53 ?_
        refine zz_lstore dX5_raise_54 (by decide) ?_
        refine zz_aload_n rfl dX5_raise_56 ?_
        refine zz_iload rfl dX5_raise_57 ?_
        refine zz_lload rfl dX5_raise_59 ?_
        refine zz_ldc2 tX5_31 dX5_raise_61 ?_
        refine zz_lrem (by decide) dX5_raise_64 ?_
        refine zz_last dX5_raise_65 hs (vp_in_nI (by omega) (by decide)) ?_
        refine zz_lload rfl dX5_raise_66 ?_
        refine zz_ldc2 tX5_31 dX5_raise_68 ?_
        refine zz_ldiv (by decide) dX5_raise_71 ?_
        refine zz_lstore dX5_raise_72 (by decide) ?_
        refine zz_iinc dX5_raise_74 rfl (congrArg (HAdd.hAdd _) (show Int32.ofInt 1 = 1 by decide)) (by decide) ?_
        refine zz_goto (tgt := 38) dX5_raise_77 (by decide) ?_
        try dsimp only [zz_s1, zz_s2, zz_kill, zz_ent, zz_fl, List.set_cons_zero, List.set_cons_succ, List.getElem?_cons_zero, List.getElem?_cons_succ, Option.toList_some, Option.toList_none, List.cons_append, List.nil_append, List.append_nil, List.length_cons, List.length_nil, List.replicate_succ, List.replicate_zero, Nat.reduceAdd, Nat.reduceSub]
        rw [nI_1, nI_clamp (show i < 2 ^ 31 by omega), f3 i (Nat.le_refl _) (by omega), nI_l (by omega), lN_mul, lN_add]
        rw [show jv_lrem (lN (dg 1000000000000 v i * s + cy 1000000000000 s v i)) (1000000000000 : Int64) = lN ((dg 1000000000000 v i * s + cy 1000000000000 s v i) % 1000000000000) from pk_lRem (by omega) (by decide) (by decide)]
        rw [show lN (dg 1000000000000 v i * s + cy 1000000000000 s v i) / (1000000000000 : Int64) = lN ((dg 1000000000000 v i * s + cy 1000000000000 s v i) / 1000000000000) from pk_lDiv (by omega) (by decide) (by decide)]
        rw [dg_mod (by decide), dg_div (by decide)]
        refine ih (i + 1) st v _ _ (by omega) (fun a ha => ?_) (fun j hj => ?_) (fun j hj hj4 => ?_) hk
        · rw [zz_uj_ne _ _ _ ha]; exact f1 a ha
        · rw [zz_uj_at]
          by_cases e : j = i
          · rw [e, pk_uLs]
          · rw [pk_uLn e]; exact f2 j (by omega)
        · rw [zz_uj_at, pk_uLn (by omega)]; exact f3 j (by omega) hj4
  have outer : ∀ (q st : Nat) (Jx : zz_J) (z4 z6 z7 : Option Value), st + q = t → (∀ a, a ≠ c → Jx a = J a) → (∀ j, j < 4 → Jx c j = lN (dg 1000000000000 (s ^ st) j)) → zz_G mX5_raise d 0 27 [some (.ref c), some (.int (nI s)), some (.int (nI t)), some (.int (nI st)), z4, none, z6, z7, none] [] M I Jx Q := by
    intro q
    induction q with
    | zero =>
      intro st Jx z4 z6 z7 hi f1 f2
      have e : st = t := by omega
      subst e
      refine zz_iload_n rfl dX5_raise_27 ?_
      refine zz_iload_n rfl dX5_raise_28 ?_
      try dsimp only [zz_s1, zz_s2, zz_kill, zz_ent, zz_fl, List.set_cons_zero, List.set_cons_succ, List.getElem?_cons_zero, List.getElem?_cons_succ, Option.toList_some, Option.toList_none, List.cons_append, List.nil_append, List.append_nil, List.length_cons, List.length_nil, List.replicate_succ, List.replicate_zero, Nat.reduceAdd, Nat.reduceSub]
      refine zz_icmp_ge (tgt := 86) dX5_raise_29 (by decide) (fun h => ?_) (fun h => ?_)
      · refine zz_return dX5_raise_86 rfl ?_
        exact hQ Jx f1 f2
      · exact absurd (nI_le (Nat.le_refl _) (by omega)) h
    | succ q ih =>
      intro st Jx z4 z6 z7 hi f1 f2
      refine zz_iload_n rfl dX5_raise_27 ?_
      refine zz_iload_n rfl dX5_raise_28 ?_
      try dsimp only [zz_s1, zz_s2, zz_kill, zz_ent, zz_fl, List.set_cons_zero, List.set_cons_succ, List.getElem?_cons_zero, List.getElem?_cons_succ, Option.toList_some, Option.toList_none, List.cons_append, List.nil_append, List.append_nil, List.length_cons, List.length_nil, List.replicate_succ, List.replicate_zero, Nat.reduceAdd, Nat.reduceSub]
      refine zz_icmp_ge (tgt := 86) dX5_raise_29 (by decide) (fun h => ?_) (fun h => ?_)
      · exact absurd h (nI_ge (by omega) (by omega))
      · skip
        refine zz_lconst (v := 0) (by decide) dX5_raise_32 ?_
        refine zz_lstore dX5_raise_33 (by decide) ?_
        refine zz_iconst (v := 0) (by decide) dX5_raise_35 ?_
        refine zz_istore dX5_raise_36 (by decide) ?_
        try dsimp only [zz_s1, zz_s2, zz_kill, zz_ent, zz_fl, List.set_cons_zero, List.set_cons_succ, List.getElem?_cons_zero, List.getElem?_cons_succ, Option.toList_some, Option.toList_none, List.cons_append, List.nil_append, List.append_nil, List.length_cons, List.length_nil, List.replicate_succ, List.replicate_zero, Nat.reduceAdd, Nat.reduceSub]
        have hin := inner 4 0 st (s ^ st) Jx z7 (by omega) f1 (fun j hj => by omega) (fun j _ hj => f2 j hj)
        rw [cy_0] at hin
        refine hin (fun Jy z4 z6 z7 g1 g2 => ?_)
        refine zz_iinc dX5_raise_80 rfl (congrArg (HAdd.hAdd _) (show Int32.ofInt 1 = 1 by decide)) (by decide) ?_
        refine zz_goto (tgt := 27) dX5_raise_83 (by decide) ?_
        try dsimp only [zz_s1, zz_s2, zz_kill, zz_ent, zz_fl, List.set_cons_zero, List.set_cons_succ, List.getElem?_cons_zero, List.getElem?_cons_succ, Option.toList_some, Option.toList_none, List.cons_append, List.nil_append, List.append_nil, List.length_cons, List.length_nil, List.replicate_succ, List.replicate_zero, Nat.reduceAdd, Nat.reduceSub]
        rw [nI_1]
        exact ih (st + 1) Jy _ _ _ (by omega) g1 (fun j hj => by rw [Nat.pow_succ]; exact g2 j hj)
  have init : ∀ (q i : Nat) (Jx : zz_J), i + q = 4 → (∀ a, a ≠ c → Jx a = J a) → (∀ j, j < i → Jx c j = lN (dg 1000000000000 1 j)) → zz_G mX5_raise d 0 2 [some (.ref c), some (.int (nI s)), some (.int (nI t)), some (.int (nI i)), none, none, none, none, none] [] M I Jx Q := by
    intro q
    induction q with
    | zero =>
      intro i Jx hi f1 f2
      refine zz_iload_n rfl dX5_raise_2 ?_
      refine zz_iconst (v := 4) (by decide) dX5_raise_3 ?_
      try dsimp only [zz_s1, zz_s2, zz_kill, zz_ent, zz_fl, List.set_cons_zero, List.set_cons_succ, List.getElem?_cons_zero, List.getElem?_cons_succ, Option.toList_some, Option.toList_none, List.cons_append, List.nil_append, List.append_nil, List.length_cons, List.length_nil, List.replicate_succ, List.replicate_zero, Nat.reduceAdd, Nat.reduceSub]
      refine zz_icmp_ge (tgt := 25) dX5_raise_4 (by decide) (fun h => ?_) (fun h => ?_)
      · refine zz_iconst (v := 0) (by decide) dX5_raise_25 ?_
        refine zz_istore_n dX5_raise_26 (by decide) ?_
        try dsimp only [zz_s1, zz_s2, zz_kill, zz_ent, zz_fl, List.set_cons_zero, List.set_cons_succ, List.getElem?_cons_zero, List.getElem?_cons_succ, Option.toList_some, Option.toList_none, List.cons_append, List.nil_append, List.append_nil, List.length_cons, List.length_nil, List.replicate_succ, List.replicate_zero, Nat.reduceAdd, Nat.reduceSub]
        exact outer t 0 Jx _ _ _ (by omega) f1 (fun j hj => by rw [Nat.pow_zero]; exact f2 j (by omega))
      · exact absurd (nI_le (a := 4) (b := i) (by omega) (by omega)) h
    | succ q ih =>
      intro i Jx hi f1 f2
      refine zz_iload_n rfl dX5_raise_2 ?_
      refine zz_iconst (v := 4) (by decide) dX5_raise_3 ?_
      try dsimp only [zz_s1, zz_s2, zz_kill, zz_ent, zz_fl, List.set_cons_zero, List.set_cons_succ, List.getElem?_cons_zero, List.getElem?_cons_succ, Option.toList_some, Option.toList_none, List.cons_append, List.nil_append, List.append_nil, List.length_cons, List.length_nil, List.replicate_succ, List.replicate_zero, Nat.reduceAdd, Nat.reduceSub]
      refine zz_icmp_ge (tgt := 25) dX5_raise_4 (by decide) (fun h => ?_) (fun h => ?_)
      · exact absurd h (nI_ge (b := 4) (by omega) (by decide))
      · skip
        refine zz_aload_n rfl dX5_raise_7 ?_
        refine zz_iload_n rfl dX5_raise_8 ?_
        refine zz_iload_n rfl dX5_raise_9 ?_
        try dsimp only [zz_s1, zz_s2, zz_kill, zz_ent, zz_fl, List.set_cons_zero, List.set_cons_succ, List.getElem?_cons_zero, List.getElem?_cons_succ, Option.toList_some, Option.toList_none, List.cons_append, List.nil_append, List.append_nil, List.length_cons, List.length_nil, List.replicate_succ, List.replicate_zero, Nat.reduceAdd, Nat.reduceSub]
        refine zz_if_ne (tgt := 17) dX5_raise_10 (by decide) (fun h2 => ?_) (fun h2 => ?_)
        · refine zz_lconst (v := 0) (by decide) dX5_raise_17 ?_
          refine zz_last dX5_raise_18 hs (vp_in_nI (by omega) (by decide)) ?_
          refine zz_iinc dX5_raise_19 rfl (congrArg (HAdd.hAdd _) (show Int32.ofInt 1 = 1 by decide)) (by decide) ?_
          refine zz_goto (tgt := 2) dX5_raise_22 (by decide) ?_
          try dsimp only [zz_s1, zz_s2, zz_kill, zz_ent, zz_fl, List.set_cons_zero, List.set_cons_succ, List.getElem?_cons_zero, List.getElem?_cons_succ, Option.toList_some, Option.toList_none, List.cons_append, List.nil_append, List.append_nil, List.length_cons, List.length_nil, List.replicate_succ, List.replicate_zero, Nat.reduceAdd, Nat.reduceSub]
          rw [nI_1, nI_clamp (show i < 2 ^ 31 by omega)]
          refine ih (i + 1) _ (by omega) (fun a ha => ?_) (fun j hj => ?_)
          · rw [zz_uj_ne _ _ _ ha]; exact f1 a ha
          · rw [zz_uj_at]
            by_cases e : j = i
            · have i0 : 0 < i := Nat.pos_of_ne_zero fun q => h2 (by rw [q]; rfl)
              rw [e, pk_uLs, dg_s (by decide) i0]; rfl
            · rw [pk_uLn e]; exact f2 j (by omega)
        · skip
          refine zz_lconst (v := 1) (by decide) dX5_raise_13 ?_
          refine zz_goto (tgt := 18) dX5_raise_14 (by decide) ?_
          refine zz_last dX5_raise_18 hs (vp_in_nI (by omega) (by decide)) ?_
          refine zz_iinc dX5_raise_19 rfl (congrArg (HAdd.hAdd _) (show Int32.ofInt 1 = 1 by decide)) (by decide) ?_
          refine zz_goto (tgt := 2) dX5_raise_22 (by decide) ?_
          try dsimp only [zz_s1, zz_s2, zz_kill, zz_ent, zz_fl, List.set_cons_zero, List.set_cons_succ, List.getElem?_cons_zero, List.getElem?_cons_succ, Option.toList_some, Option.toList_none, List.cons_append, List.nil_append, List.append_nil, List.length_cons, List.length_nil, List.replicate_succ, List.replicate_zero, Nat.reduceAdd, Nat.reduceSub]
          have i0 : i = 0 := Nat.eq_zero_of_not_pos fun q => nI_ne0 q (by omega) h2
          subst i0
          rw [nI_1]
          refine ih 1 _ (by omega) (fun a ha => ?_) (fun j hj => ?_)
          · rw [zz_uj_ne _ _ _ ha]; exact f1 a ha
          · have e : j = 0 := by omega
            rw [zz_uj_at, e, nI_clamp (by decide), pk_uLs, dg_0 (by decide)]; rfl
  exact init 4 0 J (by omega) (fun a _ => rfl) (fun j hj => by omega)
theorem nI_dn {q : Nat} : nI (q + 1) + (-1) = nI q := by
  rw [← nI_1, Int32.add_assoc]
  show nI q + 0 = nI q
  simp
theorem nI_d0 : nI 0 + (-1) < 0 := by decide
theorem nI_nn {q : Nat} (h : q < 2 ^ 31) : ¬ nI q < 0 := fun z => by
  rw [Int32.lt_iff_toInt_lt, nI_toInt h] at z
  have : (0 : Int32).toInt = 0 := by decide
  omega
theorem sp_X5_hold (d : Nat) (hO : OK M) {s k t j : Nat} (hs : s ≤ 1000) (ht : t ≤ 1000) (hk : k ≤ 12) (hj : j ≤ 12) (hQ : ∀ J' : zz_J, (∀ a, a ≠ 18 → a ≠ 19 → J' a = J a) → Q (some (.int (cmN (s ^ j) (t ^ k)))) M I J') : zz_D mX5_hold (d + 1) [.ref 17, .int (nI s), .int (nI k), .int (nI t), .int (nI j)] M I J Q := by
  have b1 := pw_le hs hj
  have b2 := pw_le ht hk
  have c1 : (1000 : Nat) ^ 12 < 1000000000000 ^ 4 := by decide
  refine zz_D_of rfl (Nat.le_of_ble_eq_true rfl) ?_
  try dsimp only [zz_s1, zz_s2, zz_kill, zz_ent, zz_fl, List.set_cons_zero, List.set_cons_succ, List.getElem?_cons_zero, List.getElem?_cons_succ, Option.toList_some, Option.toList_none, List.cons_append, List.nil_append, List.append_nil, List.length_cons, List.length_nil, List.replicate_succ, List.replicate_zero, Nat.reduceAdd, Nat.reduceSub]
  refine zz_aload_n rfl dX5_hold_0 ?_
  refine zz_getr dX5_hold_1 fX5_9 (fun _ _ _ _ => rfl) (os_17 hO) (or_17_0 hO) ?_
  refine zz_iload_n rfl dX5_hold_4 ?_
  refine zz_iload rfl dX5_hold_5 ?_
  try dsimp only [zz_s1, zz_s2, zz_kill, zz_ent, zz_fl, List.set_cons_zero, List.set_cons_succ, List.getElem?_cons_zero, List.getElem?_cons_succ, Option.toList_some, Option.toList_none, List.cons_append, List.nil_append, List.append_nil, List.length_cons, List.length_nil, List.replicate_succ, List.replicate_zero, Nat.reduceAdd, Nat.reduceSub]
  refine zz_cS3 dX5_hold_7 lX5_27 rfl (Nat.le_of_ble_eq_true rfl) (Nat.le_of_ble_eq_true rfl) ?_
  refine sp_X5_raise d (os_18 hO) hs (by omega) (fun J1 g1 g2 => ?_)
  try dsimp only [zz_s1, zz_s2, zz_kill, zz_ent, zz_fl, List.set_cons_zero, List.set_cons_succ, List.getElem?_cons_zero, List.getElem?_cons_succ, Option.toList_some, Option.toList_none, List.cons_append, List.nil_append, List.append_nil, List.length_cons, List.length_nil, List.replicate_succ, List.replicate_zero, Nat.reduceAdd, Nat.reduceSub]
  refine zz_aload_n rfl dX5_hold_10 ?_
  refine zz_getr dX5_hold_11 fX5_13 (fun _ _ _ _ => rfl) (os_17 hO) (or_17_1 hO) ?_
  refine zz_iload_n rfl dX5_hold_14 ?_
  refine zz_iload_n rfl dX5_hold_15 ?_
  try dsimp only [zz_s1, zz_s2, zz_kill, zz_ent, zz_fl, List.set_cons_zero, List.set_cons_succ, List.getElem?_cons_zero, List.getElem?_cons_succ, Option.toList_some, Option.toList_none, List.cons_append, List.nil_append, List.append_nil, List.length_cons, List.length_nil, List.replicate_succ, List.replicate_zero, Nat.reduceAdd, Nat.reduceSub]
  refine zz_cS3 dX5_hold_16 lX5_27 rfl (Nat.le_of_ble_eq_true rfl) (Nat.le_of_ble_eq_true rfl) ?_
  refine sp_X5_raise d (os_19 hO) ht (by omega) (fun J2 g3 g4 => ?_)
  try dsimp only [zz_s1, zz_s2, zz_kill, zz_ent, zz_fl, List.set_cons_zero, List.set_cons_succ, List.getElem?_cons_zero, List.getElem?_cons_succ, Option.toList_some, Option.toList_none, List.cons_append, List.nil_append, List.append_nil, List.length_cons, List.length_nil, List.replicate_succ, List.replicate_zero, Nat.reduceAdd, Nat.reduceSub]
  have g5 : ∀ i, i < 4 → J2 18 i = lN (dg 1000000000000 (s ^ j) i) := fun i hi => by rw [g3 18 (by decide)]; exact g2 i hi
  have g6 : ∀ a, a ≠ 18 → a ≠ 19 → J2 a = J a := fun a h1 h2 => by rw [g3 a h2]; exact g1 a h1
  have hQ2 := hQ J2 g6
  generalize s ^ j = v at *
  generalize t ^ k = w at *
  refine zz_iconst (v := 3) (by decide) dX5_hold_19 ?_
  refine zz_istore dX5_hold_20 (by decide) ?_
  try dsimp only [zz_s1, zz_s2, zz_kill, zz_ent, zz_fl, List.set_cons_zero, List.set_cons_succ, List.getElem?_cons_zero, List.getElem?_cons_succ, Option.toList_some, Option.toList_none, List.cons_append, List.nil_append, List.append_nil, List.length_cons, List.length_nil, List.replicate_succ, List.replicate_zero, Nat.reduceAdd, Nat.reduceSub]
  have loop : ∀ q, q ≤ 4 → v / 1000000000000 ^ q = w / 1000000000000 ^ q → zz_G mX5_hold (d + 1) 0 22 [some (.ref 17), some (.int (nI s)), some (.int (nI k)), some (.int (nI t)), some (.int (nI j)), some (.int (nI q + (-1)))] [] M I J2 Q := by
    intro q
    induction q with
    | zero =>
      intro hq he
      rw [Nat.pow_zero, Nat.div_one, Nat.div_one] at he
      refine zz_iload rfl dX5_hold_22 ?_
      try dsimp only [zz_s1, zz_s2, zz_kill, zz_ent, zz_fl, List.set_cons_zero, List.set_cons_succ, List.getElem?_cons_zero, List.getElem?_cons_succ, Option.toList_some, Option.toList_none, List.cons_append, List.nil_append, List.append_nil, List.length_cons, List.length_nil, List.replicate_succ, List.replicate_zero, Nat.reduceAdd, Nat.reduceSub]
      refine zz_if_lt (tgt := 75) dX5_hold_24 (by decide) (fun h => ?_) (fun h => ?_)
      · refine zz_iconst (v := 0) (by decide) dX5_hold_75 ?_
        refine zz_ireturn dX5_hold_76 rfl (by first | rfl | decide | assumption) ?_
        rw [he] at hQ2
        unfold cmN at hQ2
        rw [if_neg (Nat.lt_irrefl _), if_neg (Nat.lt_irrefl _)] at hQ2
        exact hQ2
      · exact absurd nI_d0 h
    | succ q ih =>
      intro hq he
      obtain ⟨s1, s2⟩ := cm_step he
      have s3 := (cm_step he.symm).2
      have l1 := dg_lt (B := 1000000000000) (by decide) v q
      have l2 := dg_lt (B := 1000000000000) (by decide) w q
      rw [nI_dn]
      refine zz_iload rfl dX5_hold_22 ?_
      try dsimp only [zz_s1, zz_s2, zz_kill, zz_ent, zz_fl, List.set_cons_zero, List.set_cons_succ, List.getElem?_cons_zero, List.getElem?_cons_succ, Option.toList_some, Option.toList_none, List.cons_append, List.nil_append, List.append_nil, List.length_cons, List.length_nil, List.replicate_succ, List.replicate_zero, Nat.reduceAdd, Nat.reduceSub]
      refine zz_if_lt (tgt := 75) dX5_hold_24 (by decide) (fun h => ?_) (fun h => ?_)
      · exact absurd h (nI_nn (by omega))
      · skip
        refine zz_aload_n rfl dX5_hold_27 ?_
        refine zz_getr dX5_hold_28 fX5_9 (fun _ _ _ _ => rfl) (os_17 hO) (or_17_0 hO) ?_
        refine zz_iload rfl dX5_hold_31 ?_
        refine zz_lald dX5_hold_33 (os_18 hO) (vp_in_nI (by omega) (by decide)) ?_
        refine zz_aload_n rfl dX5_hold_34 ?_
        refine zz_getr dX5_hold_35 fX5_13 (fun _ _ _ _ => rfl) (os_17 hO) (or_17_1 hO) ?_
        refine zz_iload rfl dX5_hold_38 ?_
        refine zz_lald dX5_hold_40 (os_19 hO) (vp_in_nI (by omega) (by decide)) ?_
        refine zz_lcmp dX5_hold_41 ?_
        try dsimp only [zz_s1, zz_s2, zz_kill, zz_ent, zz_fl, List.set_cons_zero, List.set_cons_succ, List.getElem?_cons_zero, List.getElem?_cons_succ, Option.toList_some, Option.toList_none, List.cons_append, List.nil_append, List.append_nil, List.length_cons, List.length_nil, List.replicate_succ, List.replicate_zero, Nat.reduceAdd, Nat.reduceSub]
        rw [nI_clamp (show q < 2 ^ 31 by omega), g5 q (by omega), g4 q (by omega)]
        refine zz_if_eq (tgt := 69) dX5_hold_42 (by decide) (fun h2 => ?_) (fun h2 => ?_)
        · refine zz_iinc dX5_hold_69 rfl (congrArg (HAdd.hAdd _) (show Int32.ofInt (-1) = (-1) by decide)) (by decide) ?_
          refine zz_goto (tgt := 22) dX5_hold_72 (by decide) ?_
          try dsimp only [zz_s1, zz_s2, zz_kill, zz_ent, zz_fl, List.set_cons_zero, List.set_cons_succ, List.getElem?_cons_zero, List.getElem?_cons_succ, Option.toList_some, Option.toList_none, List.cons_append, List.nil_append, List.append_nil, List.length_cons, List.length_nil, List.replicate_succ, List.replicate_zero, Nat.reduceAdd, Nat.reduceSub]
          exact ih (by omega) (s1 ((pk_lEQ (by omega) (by omega)).mp (cmp_eq.mp h2)))
        · skip
          refine zz_aload_n rfl dX5_hold_45 ?_
          refine zz_getr dX5_hold_46 fX5_9 (fun _ _ _ _ => rfl) (os_17 hO) (or_17_0 hO) ?_
          refine zz_iload rfl dX5_hold_49 ?_
          refine zz_lald dX5_hold_51 (os_18 hO) (vp_in_nI (by omega) (by decide)) ?_
          refine zz_aload_n rfl dX5_hold_52 ?_
          refine zz_getr dX5_hold_53 fX5_13 (fun _ _ _ _ => rfl) (os_17 hO) (or_17_1 hO) ?_
          refine zz_iload rfl dX5_hold_56 ?_
          refine zz_lald dX5_hold_58 (os_19 hO) (vp_in_nI (by omega) (by decide)) ?_
          refine zz_lcmp dX5_hold_59 ?_
          try dsimp only [zz_s1, zz_s2, zz_kill, zz_ent, zz_fl, List.set_cons_zero, List.set_cons_succ, List.getElem?_cons_zero, List.getElem?_cons_succ, Option.toList_some, Option.toList_none, List.cons_append, List.nil_append, List.append_nil, List.length_cons, List.length_nil, List.replicate_succ, List.replicate_zero, Nat.reduceAdd, Nat.reduceSub]
          rw [nI_clamp (show q < 2 ^ 31 by omega), g5 q (by omega), g4 q (by omega)]
          refine zz_if_ge (tgt := 67) dX5_hold_60 (by decide) (fun h3 => ?_) (fun h3 => ?_)
          · refine zz_iconst (v := 1) (by decide) dX5_hold_67 ?_
            refine zz_ireturn dX5_hold_68 rfl (by first | rfl | decide | assumption) ?_
            have n1 : ¬ dg 1000000000000 v q < dg 1000000000000 w q := fun z => absurd (cmp_lt.mpr ((pk_lLT (by omega) (by omega)).mpr z)) (Int32.not_lt.mpr h3)
            have n2 : ¬ dg 1000000000000 v q = dg 1000000000000 w q := fun z => h2 (cmp_eq.mpr (by rw [z]))
            have n3 := s3 (by omega)
            unfold cmN at hQ2
            rw [if_neg (by omega), if_pos n3] at hQ2
            exact hQ2
          · skip
            refine zz_iconst (v := (-1)) (by decide) dX5_hold_63 ?_
            refine zz_goto (tgt := 68) dX5_hold_64 (by decide) ?_
            refine zz_ireturn dX5_hold_68 rfl (by first | rfl | decide | assumption) ?_
            have n3 := s2 ((pk_lLT (by omega) (by omega)).mp (cmp_lt.mp (Int32.not_le.mp h3)))
            unfold cmN at hQ2
            rw [if_pos n3] at hQ2
            exact hQ2
  rw [show (3 : Int32) = nI 4 + (-1) by decide]
  exact loop 4 (Nat.le_refl _) (by rw [Nat.div_eq_of_lt (by omega), Nat.div_eq_of_lt (by omega)])
theorem in_1k {s : Int32} : ((1 : Int64) ≤ s.toInt64 ∧ s.toInt64 ≤ 1000) ↔ ∃ n : Nat, 1 ≤ n ∧ n ≤ 1000 ∧ s = nI n := by
  rw [Int64.le_iff_toInt_le, Int64.le_iff_toInt_le, i2l_int, show (1 : Int64).toInt = 1 by decide, show (1000 : Int64).toInt = 1000 by decide]
  constructor
  · intro h
    refine ⟨s.toInt.toNat, by omega, by omega, Int32.toInt_inj.mp ?_⟩
    rw [nI_toInt (by omega)]
    omega
  · rintro ⟨n, h1, h2, rfl⟩
    rw [nI_toInt (by omega)]
    omega
theorem in_12 {s : Int32} : ((1 : Int64) ≤ s.toInt64 ∧ s.toInt64 ≤ 12) ↔ ∃ n : Nat, 1 ≤ n ∧ n ≤ 12 ∧ s = nI n := by
  rw [Int64.le_iff_toInt_le, Int64.le_iff_toInt_le, i2l_int, show (1 : Int64).toInt = 1 by decide, show (12 : Int64).toInt = 12 by decide]
  constructor
  · intro h
    refine ⟨s.toInt.toNat, by omega, by omega, Int32.toInt_inj.mp ?_⟩
    rw [nI_toInt (by omega)]
    omega
  · rintro ⟨n, h1, h2, rfl⟩
    rw [nI_toInt (by omega)]
    omega
/-- what compare answers -/
def cmok (s k t j : Int32) : Prop := (∃ n : Nat, 1 ≤ n ∧ n ≤ 1000 ∧ s = nI n) ∧ (∃ n : Nat, 1 ≤ n ∧ n ≤ 1000 ∧ t = nI n) ∧ (∃ n : Nat, 1 ≤ n ∧ n ≤ 12 ∧ k = nI n) ∧ (∃ n : Nat, 1 ≤ n ∧ n ≤ 12 ∧ j = nI n)
theorem i32r {s lo hi : Int32} {n : Nat} (h1 : ¬ s < lo) (h2 : ¬ hi < s) (e1 : lo.toInt = 1) (e2 : hi.toInt = n) (hn : n < 2 ^ 31) : ∃ m : Nat, 1 ≤ m ∧ m ≤ n ∧ s = nI m := by
  rw [Int32.not_lt, Int32.le_iff_toInt_le] at h1 h2
  refine ⟨s.toInt.toNat, by omega, by omega, Int32.toInt_inj.mp ?_⟩
  rw [nI_toInt (by omega)]
  omega
theorem i32l {s lo : Int32} {n : Nat} (h1 : s < lo) (e1 : lo.toInt = 1) (hn : n < 2 ^ 31) : ¬ ∃ m : Nat, 1 ≤ m ∧ m ≤ n ∧ s = nI m := by
  rintro ⟨m, a, b, rfl⟩
  rw [Int32.lt_iff_toInt_lt, nI_toInt (by omega)] at h1
  omega
theorem i32g {s hi : Int32} {n : Nat} (h1 : hi < s) (e1 : hi.toInt = n) (hn : n < 2 ^ 31) : ¬ ∃ m : Nat, 1 ≤ m ∧ m ≤ n ∧ s = nI m := by
  rintro ⟨m, a, b, rfl⟩
  rw [Int32.lt_iff_toInt_lt, nI_toInt (by omega)] at h1
  omega
theorem sp_X9_compare (d : Nat) (hO : OK M) {s k t j : Int32} (h1 : ¬ cmok s k t j → Q (some (.int (-2))) M I J) (h2 : ∀ s' k' t' j' : Nat, s = nI s' → k = nI k' → t = nI t' → j = nI j' → cmok s k t j → s' ≤ 1000 → t' ≤ 1000 → k' ≤ 12 → j' ≤ 12 → ∀ J' : zz_J, (∀ a, a ≠ 18 → a ≠ 19 → J' a = J a) → Q (some (.int (cmN (s' ^ j') (t' ^ k')))) M I J') : zz_D mX9_compare (d + 2) [.ref 1, .int s, .int k, .int t, .int j] M I J Q := by
  refine zz_D_of rfl (Nat.le_of_ble_eq_true rfl) ?_
  try dsimp only [zz_s1, zz_s2, zz_kill, zz_ent, zz_fl, List.set_cons_zero, List.set_cons_succ, List.getElem?_cons_zero, List.getElem?_cons_succ, Option.toList_some, Option.toList_none, List.cons_append, List.nil_append, List.append_nil, List.length_cons, List.length_nil, List.replicate_succ, List.replicate_zero, Nat.reduceAdd, Nat.reduceSub]
  refine zz_iload_n rfl dX9_compare_0 ?_
  refine zz_iconst (v := 1) (by decide) dX9_compare_1 ?_
  try dsimp only [zz_s1, zz_s2, zz_kill, zz_ent, zz_fl, List.set_cons_zero, List.set_cons_succ, List.getElem?_cons_zero, List.getElem?_cons_succ, Option.toList_some, Option.toList_none, List.cons_append, List.nil_append, List.append_nil, List.length_cons, List.length_nil, List.replicate_succ, List.replicate_zero, Nat.reduceAdd, Nat.reduceSub]
  have bad1 : ¬ cmok s k t j → zz_G mX9_compare (d + 2) 0 24 [some (.ref 1), some (.int s), some (.int k), some (.int t), some (.int j)] [] M I J Q := by
    intro hb
    refine zz_bipush (v := (-2)) (by decide) dX9_compare_24 ?_
    refine zz_ireturn dX9_compare_26 rfl (by first | rfl | decide | assumption) ?_
    exact h1 hb
  have bad2 : ¬ cmok s k t j → zz_G mX9_compare (d + 2) 0 51 [some (.ref 1), some (.int s), some (.int k), some (.int t), some (.int j)] [] M I J Q := by
    intro hb
    refine zz_bipush (v := (-2)) (by decide) dX9_compare_51 ?_
    refine zz_ireturn dX9_compare_53 rfl (by first | rfl | decide | assumption) ?_
    exact h1 hb
  refine zz_icmp_lt (tgt := 24) dX9_compare_2 (by decide) (fun a1 => ?_) (fun a1 => ?_)
  · exact bad1 fun q => i32l a1 (by decide) (by decide) q.1
  refine zz_iload_n rfl dX9_compare_5 ?_
  refine zz_sipush (v := 1000) (by decide) dX9_compare_6 ?_
  try dsimp only [zz_s1, zz_s2, zz_kill, zz_ent, zz_fl, List.set_cons_zero, List.set_cons_succ, List.getElem?_cons_zero, List.getElem?_cons_succ, Option.toList_some, Option.toList_none, List.cons_append, List.nil_append, List.append_nil, List.length_cons, List.length_nil, List.replicate_succ, List.replicate_zero, Nat.reduceAdd, Nat.reduceSub]
  refine zz_icmp_gt (tgt := 24) dX9_compare_9 (by decide) (fun a2 => ?_) (fun a2 => ?_)
  · exact bad1 fun q => i32g a2 (by decide) (by decide) q.1
  refine zz_iload_n rfl dX9_compare_12 ?_
  refine zz_iconst (v := 1) (by decide) dX9_compare_13 ?_
  try dsimp only [zz_s1, zz_s2, zz_kill, zz_ent, zz_fl, List.set_cons_zero, List.set_cons_succ, List.getElem?_cons_zero, List.getElem?_cons_succ, Option.toList_some, Option.toList_none, List.cons_append, List.nil_append, List.append_nil, List.length_cons, List.length_nil, List.replicate_succ, List.replicate_zero, Nat.reduceAdd, Nat.reduceSub]
  refine zz_icmp_lt (tgt := 24) dX9_compare_14 (by decide) (fun a3 => ?_) (fun a3 => ?_)
  · exact bad1 fun q => i32l a3 (by decide) (by decide) q.2.1
  refine zz_iload_n rfl dX9_compare_17 ?_
  refine zz_sipush (v := 1000) (by decide) dX9_compare_18 ?_
  try dsimp only [zz_s1, zz_s2, zz_kill, zz_ent, zz_fl, List.set_cons_zero, List.set_cons_succ, List.getElem?_cons_zero, List.getElem?_cons_succ, Option.toList_some, Option.toList_none, List.cons_append, List.nil_append, List.append_nil, List.length_cons, List.length_nil, List.replicate_succ, List.replicate_zero, Nat.reduceAdd, Nat.reduceSub]
  refine zz_icmp_le (tgt := 27) dX9_compare_21 (by decide) (fun a4 => ?_) (fun a4 => ?_)
  rotate_left
  · exact bad1 fun q => i32g (Int32.not_le.mp a4) (by decide) (by decide) q.2.1
  refine zz_iload_n rfl dX9_compare_27 ?_
  refine zz_iconst (v := 1) (by decide) dX9_compare_28 ?_
  try dsimp only [zz_s1, zz_s2, zz_kill, zz_ent, zz_fl, List.set_cons_zero, List.set_cons_succ, List.getElem?_cons_zero, List.getElem?_cons_succ, Option.toList_some, Option.toList_none, List.cons_append, List.nil_append, List.append_nil, List.length_cons, List.length_nil, List.replicate_succ, List.replicate_zero, Nat.reduceAdd, Nat.reduceSub]
  refine zz_icmp_lt (tgt := 51) dX9_compare_29 (by decide) (fun a5 => ?_) (fun a5 => ?_)
  · exact bad2 fun q => i32l a5 (by decide) (by decide) q.2.2.1
  refine zz_iload_n rfl dX9_compare_32 ?_
  refine zz_bipush (v := 12) (by decide) dX9_compare_33 ?_
  try dsimp only [zz_s1, zz_s2, zz_kill, zz_ent, zz_fl, List.set_cons_zero, List.set_cons_succ, List.getElem?_cons_zero, List.getElem?_cons_succ, Option.toList_some, Option.toList_none, List.cons_append, List.nil_append, List.append_nil, List.length_cons, List.length_nil, List.replicate_succ, List.replicate_zero, Nat.reduceAdd, Nat.reduceSub]
  refine zz_icmp_gt (tgt := 51) dX9_compare_35 (by decide) (fun a6 => ?_) (fun a6 => ?_)
  · exact bad2 fun q => i32g a6 (by decide) (by decide) q.2.2.1
  refine zz_iload rfl dX9_compare_38 ?_
  refine zz_iconst (v := 1) (by decide) dX9_compare_40 ?_
  try dsimp only [zz_s1, zz_s2, zz_kill, zz_ent, zz_fl, List.set_cons_zero, List.set_cons_succ, List.getElem?_cons_zero, List.getElem?_cons_succ, Option.toList_some, Option.toList_none, List.cons_append, List.nil_append, List.append_nil, List.length_cons, List.length_nil, List.replicate_succ, List.replicate_zero, Nat.reduceAdd, Nat.reduceSub]
  refine zz_icmp_lt (tgt := 51) dX9_compare_41 (by decide) (fun a7 => ?_) (fun a7 => ?_)
  · exact bad2 fun q => i32l a7 (by decide) (by decide) q.2.2.2
  refine zz_iload rfl dX9_compare_44 ?_
  refine zz_bipush (v := 12) (by decide) dX9_compare_46 ?_
  try dsimp only [zz_s1, zz_s2, zz_kill, zz_ent, zz_fl, List.set_cons_zero, List.set_cons_succ, List.getElem?_cons_zero, List.getElem?_cons_succ, Option.toList_some, Option.toList_none, List.cons_append, List.nil_append, List.append_nil, List.length_cons, List.length_nil, List.replicate_succ, List.replicate_zero, Nat.reduceAdd, Nat.reduceSub]
  refine zz_icmp_le (tgt := 54) dX9_compare_48 (by decide) (fun a8 => ?_) (fun a8 => ?_)
  rotate_left
  · exact bad2 fun q => i32g (Int32.not_le.mp a8) (by decide) (by decide) q.2.2.2
  have p1 : ∃ n : Nat, 1 ≤ n ∧ n ≤ 1000 ∧ s = nI n := i32r a1 a2 (by decide) (by decide) (by decide)
  have p2 : ∃ n : Nat, 1 ≤ n ∧ n ≤ 1000 ∧ t = nI n := i32r a3 (Int32.not_lt.mpr a4) (by decide) (by decide) (by decide)
  have p3 : ∃ n : Nat, 1 ≤ n ∧ n ≤ 12 ∧ k = nI n := i32r a5 a6 (by decide) (by decide) (by decide)
  have p4 : ∃ n : Nat, 1 ≤ n ∧ n ≤ 12 ∧ j = nI n := i32r a7 (Int32.not_lt.mpr a8) (by decide) (by decide) (by decide)
  have hok : cmok s k t j := ⟨p1, p2, p3, p4⟩
  obtain ⟨s', u1, u2, rfl⟩ := p1
  obtain ⟨t', u3, u4, rfl⟩ := p2
  obtain ⟨k', u5, u6, rfl⟩ := p3
  obtain ⟨j', u7, u8, rfl⟩ := p4
  refine zz_aload_n rfl dX9_compare_54 ?_
  refine zz_getr dX9_compare_55 fX9_57 (fun _ _ _ _ => rfl) (os_1 hO) (or_1_7 hO) ?_
  refine zz_iload_n rfl dX9_compare_58 ?_
  refine zz_iload_n rfl dX9_compare_59 ?_
  refine zz_iload_n rfl dX9_compare_60 ?_
  refine zz_iload rfl dX9_compare_61 ?_
  try dsimp only [zz_s1, zz_s2, zz_kill, zz_ent, zz_fl, List.set_cons_zero, List.set_cons_succ, List.getElem?_cons_zero, List.getElem?_cons_succ, Option.toList_some, Option.toList_none, List.cons_append, List.nil_append, List.append_nil, List.length_cons, List.length_nil, List.replicate_succ, List.replicate_zero, Nat.reduceAdd, Nat.reduceSub]
  refine zz_cV4 dX9_compare_63 lX9_239 rfl (os_17 hO) rfl rfl (Nat.le_of_ble_eq_true rfl) (Nat.le_of_ble_eq_true rfl) ?_
  refine sp_X5_hold d hO u2 u4 u6 u8 (fun J' g => ?_)
  try dsimp only [zz_s1, zz_s2, zz_kill, zz_ent, zz_fl, List.set_cons_zero, List.set_cons_succ, List.getElem?_cons_zero, List.getElem?_cons_succ, Option.toList_some, Option.toList_none, List.cons_append, List.nil_append, List.append_nil, List.length_cons, List.length_nil, List.replicate_succ, List.replicate_zero, Nat.reduceAdd, Nat.reduceSub]
  refine zz_ireturn dX9_compare_66 rfl (by first | rfl | decide | assumption) ?_
  exact h2 s' k' t' j' rfl rfl rfl rfl hok u2 u4 u6 u8 J' g
end PPow

