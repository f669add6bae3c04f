/-! ===== met: both sides ===== -/
theorem mt_iff {a b s k : Nat} (hb : 0 < b) (hk : 1 ≤ k) : s * (b / Nat.gcd a b) ^ k = 1 * (a / Nat.gcd a b) ^ k ↔ b / Nat.gcd a b = 1 ∧ (a / Nat.gcd a b) ^ k = s := by
  have hg : 0 < Nat.gcd a b := Nat.gcd_pos_of_pos_right a hb
  have hc : Nat.Coprime (b / Nat.gcd a b) (a / Nat.gcd a b) := (Nat.coprime_div_gcd_div_gcd hg).symm
  rw [Nat.one_mul]
  constructor
  · intro h
    have h1 : (b / Nat.gcd a b) ^ k = 1 := (Nat.Coprime.pow k k hc).eq_one_of_dvd ⟨s, by rw [← h, Nat.mul_comm]⟩
    have h2 : b / Nat.gcd a b = 1 := by
      rcases Nat.pow_eq_one.mp h1 with z | z
      · exact z
      · omega
    refine ⟨h2, ?_⟩
    rw [← h, h1, Nat.mul_one]
  · rintro ⟨h1, h2⟩
    rw [h1, h2, Nat.one_pow, Nat.mul_one]
def mtv (n : Nat) (E : Nat → Nat → Bool) (rw : Nat → Nat → Int32) (kk : Nat) : Int32 :=
  (if kk ^ (bf n E 6).2 = (bf n E 6).1 then 1 else 0) ||| (if ff n E rw = -1 ∧ (bs rw n).2.1 / Nat.gcd (bs rw n).1 (bs rw n).2.1 = 1 ∧ ((bs rw n).1 / Nat.gcd (bs rw n).1 (bs rw n).2.1) ^ (bf n E 6).2 = (bf n E 6).1 then 2 else 0)
theorem or_0I (x : Int32) : x ||| 0 = x := b_ext (fun i _ => by rw [b_or, b_0, Bool.or_false])
theorem cmN_0 (v w : Nat) : cmN v w = 0 ↔ v = w := by
  unfold cmN
  by_cases h : v < w
  · rw [if_pos h]
    exact ⟨fun z => absurd z (by decide), fun z => by omega⟩
  · rw [if_neg h]
    by_cases h2 : w < v
    · rw [if_pos h2]
      exact ⟨fun z => absurd z (by decide), fun z => by omega⟩
    · rw [if_neg h2]
      exact ⟨fun _ => by omega, fun _ => rfl⟩
section PMet
variable {M : zz_M} {I : zz_I} {J : zz_J} {Q : zz_Q}
theorem sp_isPower (d : Nat) {s b t : Nat} (hs : s ≤ 64) (hb1 : 1 ≤ b) (hb : b < 2 ^ 31) (ht : t ≤ 12) (hQ : ∀ r : Int32, bo r (b ^ t = s) → Q (some (.int r)) M I J) : zz_D mX5_isPower d [.ref 17, .int (nI s), .int (nI b), .int (nI t)] M I J Q := by
  refine zz_D_of rfl (Nat.le_of_ble_eq_true rfl) ?_
  try dsimp only [zz_s1, zz_s2, zz_kill, zz_ent, zz_fl, List.set_cons_zero, List.set_cons_succ, List.getElem?_cons_zero, List.getElem?_cons_succ, Option.toList_some, Option.toList_none, List.cons_append, List.nil_append, List.append_nil, List.length_cons, List.length_nil, List.replicate_succ, List.replicate_zero, Nat.reduceAdd, Nat.reduceSub]
  refine zz_lconst (v := 1) (by decide) dX5_isPower_0 ?_
  refine zz_lstore dX5_isPower_1 (by decide) ?_
  refine zz_iconst (v := 0) (by decide) dX5_isPower_3 ?_
  refine zz_istore dX5_isPower_4 (by decide) ?_
  try dsimp only [zz_s1, zz_s2, zz_kill, zz_ent, zz_fl, List.set_cons_zero, List.set_cons_succ, List.getElem?_cons_zero, List.getElem?_cons_succ, Option.toList_some, Option.toList_none, List.cons_append, List.nil_append, List.append_nil, List.length_cons, List.length_nil, List.replicate_succ, List.replicate_zero, Nat.reduceAdd, Nat.reduceSub]
  have fin : ∀ (p : Nat) (z6 : Option Value), p < 2 ^ 62 → (p = s ↔ b ^ t = s) → zz_G mX5_isPower d 0 33 [some (.ref 17), some (.int (nI s)), some (.int (nI b)), some (.int (nI t)), some (.long (lN p)), none, z6] [] M I J Q := by
    intro p z6 hp he
    refine zz_lload rfl dX5_isPower_33 ?_
    refine zz_iload_n rfl dX5_isPower_35 ?_
    refine zz_i2l dX5_isPower_36 ?_
    refine zz_lcmp dX5_isPower_37 ?_
    try dsimp only [zz_s1, zz_s2, zz_kill, zz_ent, zz_fl, List.set_cons_zero, List.set_cons_succ, List.getElem?_cons_zero, List.getElem?_cons_succ, Option.toList_some, Option.toList_none, List.cons_append, List.nil_append, List.append_nil, List.length_cons, List.length_nil, List.replicate_succ, List.replicate_zero, Nat.reduceAdd, Nat.reduceSub]
    rw [nI_l (show s < 2 ^ 31 by omega)]
    have e1 : lg_cmp (lN p) (lN s) = 0 ↔ p = s := cmp_eq.trans (pk_lEQ (by omega) (by omega))
    refine zz_if_ne (tgt := 45) dX5_isPower_38 (by decide) (fun q1 => ?_) (fun q1 => ?_)
    · refine zz_iconst (v := 0) (by decide) dX5_isPower_45 ?_
      refine zz_ireturn dX5_isPower_46 rfl (by first | rfl | decide | assumption) ?_
      exact hQ 0 (bo.zero fun z => q1 (e1.mpr (he.mpr z)))
    · skip
      refine zz_iconst (v := 1) (by decide) dX5_isPower_41 ?_
      refine zz_goto (tgt := 46) dX5_isPower_42 (by decide) ?_
      refine zz_ireturn dX5_isPower_46 rfl (by first | rfl | decide | assumption) ?_
      exact hQ 1 (bo.one (he.mp (e1.mp q1)))
  have loop : ∀ (q i : Nat), i + q = t → b ^ i ≤ 2 ^ 37 → zz_G mX5_isPower d 0 6 [some (.ref 17), some (.int (nI s)), some (.int (nI b)), some (.int (nI t)), some (.long (lN (b ^ i))), none, some (.int (nI i))] [] M I J Q := by
    intro q
    induction q with
    | zero =>
      intro i hi hp
      have e : i = t := by omega
      subst e
      refine zz_iload rfl dX5_isPower_6 ?_
      refine zz_iload_n rfl dX5_isPower_8 ?_
      try dsimp only [zz_s1, zz_s2, zz_kill, zz_ent, zz_fl, List.set_cons_zero, List.set_cons_succ, List.getElem?_cons_zero, List.getElem?_cons_succ, Option.toList_some, Option.toList_none, List.cons_append, List.nil_append, List.append_nil, List.length_cons, List.length_nil, List.replicate_succ, List.replicate_zero, Nat.reduceAdd, Nat.reduceSub]
      refine zz_icmp_ge (tgt := 33) dX5_isPower_9 (by decide) (fun q1 => ?_) (fun q1 => ?_)
      · exact fin (b ^ i) _ (by omega) Iff.rfl
      · exact absurd (nI_le (Nat.le_refl i) (by omega)) q1
    | succ q ih =>
      intro i hi hp
      refine zz_iload rfl dX5_isPower_6 ?_
      refine zz_iload_n rfl dX5_isPower_8 ?_
      try dsimp only [zz_s1, zz_s2, zz_kill, zz_ent, zz_fl, List.set_cons_zero, List.set_cons_succ, List.getElem?_cons_zero, List.getElem?_cons_succ, Option.toList_some, Option.toList_none, List.cons_append, List.nil_append, List.append_nil, List.length_cons, List.length_nil, List.replicate_succ, List.replicate_zero, Nat.reduceAdd, Nat.reduceSub]
      refine zz_icmp_ge (tgt := 33) dX5_isPower_9 (by decide) (fun q1 => ?_) (fun q1 => ?_)
      · exact absurd q1 (nI_ge (by omega) (by omega))
      refine zz_lload rfl dX5_isPower_12 ?_
      refine zz_iload_n rfl dX5_isPower_14 ?_
      refine zz_i2l dX5_isPower_15 ?_
      refine zz_lcmp dX5_isPower_16 ?_
      try dsimp only [zz_s1, zz_s2, zz_kill, zz_ent, zz_fl, List.set_cons_zero, List.set_cons_succ, List.getElem?_cons_zero, List.getElem?_cons_succ, Option.toList_some, Option.toList_none, List.cons_append, List.nil_append, List.append_nil, List.length_cons, List.length_nil, List.replicate_succ, List.replicate_zero, Nat.reduceAdd, Nat.reduceSub]
      rw [nI_l (show s < 2 ^ 31 by omega)]
      have e1 : 0 < lg_cmp (lN (b ^ i)) (lN s) ↔ s < b ^ i := cmp_gt.trans (pk_lLT (by omega) (by omega))
      refine zz_if_gt (tgt := 33) dX5_isPower_17 (by decide) (fun q2 => ?_) (fun q2 => ?_)
      · have h2 := e1.mp q2
        have h3 : b ^ i ≤ b ^ t := Nat.pow_le_pow_right (by omega) (by omega)
        exact fin (b ^ i) _ (by omega) ⟨fun z => by omega, fun z => by omega⟩
      · skip
        have h2 : b ^ i ≤ s := Nat.le_of_not_lt fun z => q2 (e1.mpr z)
        refine zz_lload rfl dX5_isPower_20 ?_
        refine zz_iload_n rfl dX5_isPower_22 ?_
        refine zz_i2l dX5_isPower_23 ?_
        refine zz_lmul dX5_isPower_24 ?_
        refine zz_lstore dX5_isPower_25 (by decide) ?_
        refine zz_iinc dX5_isPower_27 rfl (congrArg (HAdd.hAdd _) (show Int32.ofInt 1 = 1 by decide)) (by decide) ?_
        refine zz_goto (tgt := 6) dX5_isPower_30 (by decide) ?_
        try dsimp only [zz_s1, zz_s2, zz_kill, zz_ent, zz_fl, List.set_cons_zero, List.set_cons_succ, List.getElem?_cons_zero, List.getElem?_cons_succ, Option.toList_some, Option.toList_none, List.cons_append, List.nil_append, List.append_nil, List.length_cons, List.length_nil, List.replicate_succ, List.replicate_zero, Nat.reduceAdd, Nat.reduceSub]
        rw [nI_l hb, lN_mul, nI_1, ← Nat.pow_succ]
        refine ih (i + 1) (by omega) ?_
        rw [Nat.pow_succ]
        have : b ^ i * b ≤ 64 * 2 ^ 31 := Nat.mul_le_mul (by omega) (by omega)
        omega
  exact loop t 0 (by omega) (by rw [Nat.pow_zero]; decide)
theorem sp_X9_met (d : Nat) (hO : OK M) {l : Int32} {n : Nat → Nat} {kd ag : Nat → Int32} {E : Nat → Nat → Nat → Bool} {sg : Nat → Nat → Int32} {rw : Nat → Nat → Nat → Int32} (hn : ∀ j, j < 8 → 1 ≤ n j ∧ n j ≤ 24) (hE : ∀ j, j < 8 → wfE (n j) (E j)) (hr : ∀ j, j < 8 → rok (rw j)) (hC : ∀ j, j < 8 → CL I j (n j) (kd j) (ag j) (E j) (sg j) (rw j)) {tT : Nat} (ht : tT + 24 < 2 ^ 30) (hT : RTe J tT)
    (h1 : ∀ j, j < 8 → l = nI j → ∀ (I' : zz_I) (J' : zz_J) (kk t' : Nat), (∀ c, c ≠ 8 → c ≠ 10 → c ≠ 11 → c ≠ 12 → c ≠ 13 → c ≠ 16 → c ≠ 17 → I' c = I c) → t' ≤ tT + 24 → RTe J' t' → hp_N (n j) (E j) (hp_a (n j) (E j)) kk → Q (some (.int (mtv (n j) (E j) (rw j) kk))) M I' J')
    (h2 : ¬ vp_in l 8 → Q (some (.int (-2))) M I J) : zz_D mX9_met (d + 71) [.ref 1, .int l] M I J Q := by
  refine zz_D_of rfl (Nat.le_of_ble_eq_true rfl) ?_
  try dsimp only [zz_s1, zz_s2, zz_kill, zz_ent, zz_fl, List.set_cons_zero, List.set_cons_succ, List.getElem?_cons_zero, List.getElem?_cons_succ, Option.toList_some, Option.toList_none, List.cons_append, List.nil_append, List.append_nil, List.length_cons, List.length_nil, List.replicate_succ, List.replicate_zero, Nat.reduceAdd, Nat.reduceSub]
  refine zz_aload_n rfl dX9_met_0 ?_
  refine zz_iload_n rfl dX9_met_1 ?_
  try dsimp only [zz_s1, zz_s2, zz_kill, zz_ent, zz_fl, List.set_cons_zero, List.set_cons_succ, List.getElem?_cons_zero, List.getElem?_cons_succ, Option.toList_some, Option.toList_none, List.cons_append, List.nil_append, List.append_nil, List.length_cons, List.length_nil, List.replicate_succ, List.replicate_zero, Nat.reduceAdd, Nat.reduceSub]
  refine zz_cV1 dX9_met_2 lX9_100 rfl (os_1 hO) rfl rfl (Nat.le_of_ble_eq_true rfl) (Nat.le_of_ble_eq_true rfl) ?_
  refine sp_lineAt (d + 70) hO (fun j hj e => ?_) (fun hv => ?_)
  try dsimp only [zz_s1, zz_s2, zz_kill, zz_ent, zz_fl, List.set_cons_zero, List.set_cons_succ, List.getElem?_cons_zero, List.getElem?_cons_succ, Option.toList_some, Option.toList_none, List.cons_append, List.nil_append, List.append_nil, List.length_cons, List.length_nil, List.replicate_succ, List.replicate_zero, Nat.reduceAdd, Nat.reduceSub]
  · skip
    have hc := hC j hj
    have hnj := hn j hj
    have hbl := bf_le (n := n j) (E := E j) 6
    have hbp := bf_pos (E := E j) hnj.1 hnj.2 6 (by decide)
    refine zz_astore_n dX9_met_5 (by decide) ?_
    refine zz_aload_n rfl dX9_met_6 ?_
    try dsimp only [zz_s1, zz_s2, zz_kill, zz_ent, zz_fl, List.set_cons_zero, List.set_cons_succ, List.getElem?_cons_zero, List.getElem?_cons_succ, Option.toList_some, Option.toList_none, List.cons_append, List.nil_append, List.append_nil, List.length_cons, List.length_nil, List.replicate_succ, List.replicate_zero, Nat.reduceAdd, Nat.reduceSub]
    refine zz_ifnonnull (tgt := 13) dX9_met_7 (by decide) ?_
    refine zz_aload_n rfl dX9_met_13 ?_
    refine zz_aload_n rfl dX9_met_14 ?_
    try dsimp only [zz_s1, zz_s2, zz_kill, zz_ent, zz_fl, List.set_cons_zero, List.set_cons_succ, List.getElem?_cons_zero, List.getElem?_cons_succ, Option.toList_some, Option.toList_none, List.cons_append, List.nil_append, List.append_nil, List.length_cons, List.length_nil, List.replicate_succ, List.replicate_zero, Nat.reduceAdd, Nat.reduceSub]
    refine zz_cV1 dX9_met_15 lX9_243 rfl (os_1 hO) rfl rfl (Nat.le_of_ble_eq_true rfl) (Nat.le_of_ble_eq_true rfl) ?_
    refine sp_findBest d hO hj hnj.1 hnj.2 (hE j hj) hc (fun I1 J1 a1 a2 a3 a4 => ?_)
    try dsimp only [zz_s1, zz_s2, zz_kill, zz_ent, zz_fl, List.set_cons_zero, List.set_cons_succ, List.getElem?_cons_zero, List.getElem?_cons_succ, Option.toList_some, Option.toList_none, List.cons_append, List.nil_append, List.append_nil, List.length_cons, List.length_nil, List.replicate_succ, List.replicate_zero, Nat.reduceAdd, Nat.reduceSub]
    refine zz_iconst (v := 0) (by decide) dX9_met_18 ?_
    refine zz_istore_n dX9_met_19 (by decide) ?_
    refine zz_aload_n rfl dX9_met_20 ?_
    refine zz_getr dX9_met_21 fX9_57 (fun _ _ _ _ => rfl) (os_1 hO) (or_1_7 hO) ?_
    refine zz_aload_n rfl dX9_met_24 ?_
    refine zz_getr dX9_met_25 fX9_57 (fun _ _ _ _ => rfl) (os_1 hO) (or_1_7 hO) ?_
    refine zz_geti dX9_met_28 fX9_250 rfl (os_17 hO) ?_
    refine zz_aload_n rfl dX9_met_31 ?_
    refine zz_aload_n rfl dX9_met_32 ?_
    try dsimp only [zz_s1, zz_s2, zz_kill, zz_ent, zz_fl, List.set_cons_zero, List.set_cons_succ, List.getElem?_cons_zero, List.getElem?_cons_succ, Option.toList_some, Option.toList_none, List.cons_append, List.nil_append, List.append_nil, List.length_cons, List.length_nil, List.replicate_succ, List.replicate_zero, Nat.reduceAdd, Nat.reduceSub]
    rw [a4]
    have hc1 : CL I1 j (n j) (kd j) (ag j) (E j) (sg j) (rw j) := CL_of (fun c h1 h2 => a1 c (by omega) (by omega)) hj hc
    refine zz_cV1 dX9_met_33 lX9_212 rfl (os_1 hO) rfl rfl (Nat.le_of_ble_eq_true rfl) (Nat.le_of_ble_eq_true rfl) ?_
    refine sp_fewestHeaps d hO hj hnj.1 hnj.2 (hE j hj) hc1 ht (hT.of (a2 10 (by decide) (by decide) (by decide) (by decide)) (a2 15 (by decide) (by decide) (by decide) (by decide))) (fun I2 J2 kk w t2 b1 b2 b3 b4 b5 b6 b7 b8 => ?_)
    try dsimp only [zz_s1, zz_s2, zz_kill, zz_ent, zz_fl, List.set_cons_zero, List.set_cons_succ, List.getElem?_cons_zero, List.getElem?_cons_succ, Option.toList_some, Option.toList_none, List.cons_append, List.nil_append, List.append_nil, List.length_cons, List.length_nil, List.replicate_succ, List.replicate_zero, Nat.reduceAdd, Nat.reduceSub]
    have hkk := hp_N_le b3 hp_an
    have hk1 : 1 ≤ kk := Nat.le_trans (hp_a1 hnj.1 hnj.2) b3.1
    have e15 : I2 17 = I1 17 := b1 17 (by decide) (by decide) (by decide) (by decide) (by decide)
    have eI2 : ∀ c, c ≠ 8 → c ≠ 10 → c ≠ 11 → c ≠ 12 → c ≠ 13 → c ≠ 17 → I2 c = I c := fun c c1 c2 c3 c4 c5 c6 => by rw [b1 c c1 c2 c3 c4 c5]; exact a1 c c1 c6
    have hc2 : CL I2 j (n j) (kd j) (ag j) (E j) (sg j) (rw j) := CL_of (fun c h1 h2 => eI2 c (by omega) (by omega) (by omega) (by omega) (by omega) (by omega)) hj hc
    refine zz_aload_n rfl dX9_met_36 ?_
    refine zz_getr dX9_met_37 fX9_57 (fun _ _ _ _ => rfl) (os_1 hO) (or_1_7 hO) ?_
    refine zz_geti dX9_met_40 fX9_247 rfl (os_17 hO) ?_
    try dsimp only [zz_s1, zz_s2, zz_kill, zz_ent, zz_fl, List.set_cons_zero, List.set_cons_succ, List.getElem?_cons_zero, List.getElem?_cons_succ, Option.toList_some, Option.toList_none, List.cons_append, List.nil_append, List.append_nil, List.length_cons, List.length_nil, List.replicate_succ, List.replicate_zero, Nat.reduceAdd, Nat.reduceSub]
    rw [e15, a3]
    refine zz_cV3 dX9_met_43 lX9_253 rfl (os_17 hO) rfl rfl (Nat.le_of_ble_eq_true rfl) (Nat.le_of_ble_eq_true rfl) ?_
    refine sp_isPower (d + 70) hbl.1 hk1 (show kk < 2 ^ 31 by omega) (show (bf (n j) (E j) 6).2 ≤ 12 by omega) (fun r hr1 => ?_)
    try dsimp only [zz_s1, zz_s2, zz_kill, zz_ent, zz_fl, List.set_cons_zero, List.set_cons_succ, List.getElem?_cons_zero, List.getElem?_cons_succ, Option.toList_some, Option.toList_none, List.cons_append, List.nil_append, List.append_nil, List.length_cons, List.length_nil, List.replicate_succ, List.replicate_zero, Nat.reduceAdd, Nat.reduceSub]
    have tail : ∀ b0 : Int32, b0 = (if kk ^ (bf (n j) (E j) 6).2 = (bf (n j) (E j) 6).1 then 1 else 0) → zz_G mX9_met (d + 71) 0 53 [some (.ref 1), some (.int l), some (.ref (LN j)), some (.int b0)] [] M I2 J2 Q := by
      intro b0 hb0
      have fin : ∀ (I3 : zz_I) (x : Int32), (∀ c, c ≠ 16 → I3 c = I2 c) → b0 ||| (if ff (n j) (E j) (rw j) = -1 ∧ (bs (rw j) (n j)).2.1 / Nat.gcd (bs (rw j) (n j)).1 (bs (rw j) (n j)).2.1 = 1 ∧ ((bs (rw j) (n j)).1 / Nat.gcd (bs (rw j) (n j)).1 (bs (rw j) (n j)).2.1) ^ (bf (n j) (E j) 6).2 = (bf (n j) (E j) 6).1 then 2 else 0) = x → Q (some (.int x)) M I3 J2 := by
        intro I3 x k1 k2
        rw [← k2, hb0]
        exact h1 j hj e I3 J2 kk t2 (fun c c1 c2 c3 c4 c5 c6 c7 => by rw [k1 c c6]; exact eI2 c c1 c2 c3 c4 c5 c7) b7 b8 b3
      refine zz_aload_n rfl dX9_met_53 ?_
      refine zz_getr dX9_met_54 fX9_50 (fun _ _ _ _ => rfl) (os_1 hO) (or_1_6 hO) ?_
      refine zz_aload_n rfl dX9_met_57 ?_
      try dsimp only [zz_s1, zz_s2, zz_kill, zz_ent, zz_fl, List.set_cons_zero, List.set_cons_succ, List.getElem?_cons_zero, List.getElem?_cons_succ, Option.toList_some, Option.toList_none, List.cons_append, List.nil_append, List.append_nil, List.length_cons, List.length_nil, List.replicate_succ, List.replicate_zero, Nat.reduceAdd, Nat.reduceSub]
      refine zz_cV1 dX9_met_58 lX9_226 rfl (os_16 hO) rfl rfl (Nat.le_of_ble_eq_true rfl) (Nat.le_of_ble_eq_true rfl) ?_
      refine sp_measure (d + 68) hO hj hnj.1 hnj.2 (hr j hj) hc2 (fun hff I3 k1 k2 k3 k4 => ?_) (fun hff => ?_)
      try dsimp only [zz_s1, zz_s2, zz_kill, zz_ent, zz_fl, List.set_cons_zero, List.set_cons_succ, List.getElem?_cons_zero, List.getElem?_cons_succ, Option.toList_some, Option.toList_none, List.cons_append, List.nil_append, List.append_nil, List.length_cons, List.length_nil, List.replicate_succ, List.replicate_zero, Nat.reduceAdd, Nat.reduceSub]
      · try dsimp only [zz_s1, zz_s2, zz_kill, zz_ent, zz_fl, List.set_cons_zero, List.set_cons_succ, List.getElem?_cons_zero, List.getElem?_cons_succ, Option.toList_some, Option.toList_none, List.cons_append, List.nil_append, List.append_nil, List.length_cons, List.length_nil, List.replicate_succ, List.replicate_zero, Nat.reduceAdd, Nat.reduceSub]
        have hbn := bs_le (hr j hj) (n j) hnj.2
        have hbq := bs_pos (hr j hj) hnj.2 (ff_ok hnj.2 hff) (n j) (Nat.le_refl _)
        have ha0 := hbq.2 hnj.1
        have hb0' := hbq.1
        have hg : 0 < Nat.gcd (bs (rw j) (n j)).1 (bs (rw j) (n j)).2.1 := Nat.gcd_pos_of_pos_right _ hb0'
        have hA1 : 1 ≤ (bs (rw j) (n j)).1 / Nat.gcd (bs (rw j) (n j)).1 (bs (rw j) (n j)).2.1 := Nat.div_pos (Nat.gcd_le_left _ ha0) hg
        have hA2 : (bs (rw j) (n j)).1 / Nat.gcd (bs (rw j) (n j)).1 (bs (rw j) (n j)).2.1 ≤ 29160000 := Nat.le_trans (Nat.div_le_self _ _) hbn.1
        have hB2 : (bs (rw j) (n j)).2.1 / Nat.gcd (bs (rw j) (n j)).1 (bs (rw j) (n j)).2.1 ≤ 29160000 := Nat.le_trans (Nat.div_le_self _ _) hbn.2.1
        refine zz_if_eq (tgt := 110) dX9_met_61 (by decide) (fun q1 => ?_) (fun q1 => ?_)
        · exact absurd q1 (by decide)
        refine zz_aload_n rfl dX9_met_64 ?_
        refine zz_getr dX9_met_65 fX9_50 (fun _ _ _ _ => rfl) (os_1 hO) (or_1_6 hO) ?_
        refine zz_geti dX9_met_68 fX9_233 rfl (os_16 hO) ?_
        refine zz_iconst (v := 1) (by decide) dX9_met_71 ?_
        try dsimp only [zz_s1, zz_s2, zz_kill, zz_ent, zz_fl, List.set_cons_zero, List.set_cons_succ, List.getElem?_cons_zero, List.getElem?_cons_succ, Option.toList_some, Option.toList_none, List.cons_append, List.nil_append, List.append_nil, List.length_cons, List.length_nil, List.replicate_succ, List.replicate_zero, Nat.reduceAdd, Nat.reduceSub]
        rw [k3]
        refine zz_icmp_ne (tgt := 110) dX9_met_72 (by decide) (fun q2 => ?_) (fun q2 => ?_)
        · refine zz_iload_n rfl dX9_met_110 ?_
          refine zz_ireturn dX9_met_111 rfl (by first | rfl | decide | assumption) ?_
          refine fin I3 b0 k1 ?_
          rw [if_neg (fun z => q2 (by rw [z.2.1]; rfl)), or_0I]
        have hB1 := (nI_eq (b := 1) (by omega) (by decide)).mp q2
        have e15' : I3 17 = I1 17 := (k1 17 (by decide)).trans e15
        refine zz_aload_n rfl dX9_met_75 ?_
        refine zz_getr dX9_met_76 fX9_57 (fun _ _ _ _ => rfl) (os_1 hO) (or_1_7 hO) ?_
        refine zz_aload_n rfl dX9_met_79 ?_
        refine zz_getr dX9_met_80 fX9_57 (fun _ _ _ _ => rfl) (os_1 hO) (or_1_7 hO) ?_
        refine zz_geti dX9_met_83 fX9_250 rfl (os_17 hO) ?_
        refine zz_aload_n rfl dX9_met_86 ?_
        refine zz_getr dX9_met_87 fX9_50 (fun _ _ _ _ => rfl) (os_1 hO) (or_1_6 hO) ?_
        refine zz_geti dX9_met_90 fX9_230 rfl (os_16 hO) ?_
        refine zz_aload_n rfl dX9_met_93 ?_
        refine zz_getr dX9_met_94 fX9_57 (fun _ _ _ _ => rfl) (os_1 hO) (or_1_7 hO) ?_
        refine zz_geti dX9_met_97 fX9_247 rfl (os_17 hO) ?_
        try dsimp only [zz_s1, zz_s2, zz_kill, zz_ent, zz_fl, List.set_cons_zero, List.set_cons_succ, List.getElem?_cons_zero, List.getElem?_cons_succ, Option.toList_some, Option.toList_none, List.cons_append, List.nil_append, List.append_nil, List.length_cons, List.length_nil, List.replicate_succ, List.replicate_zero, Nat.reduceAdd, Nat.reduceSub]
        rw [k2, e15', a3, a4]
        refine zz_cV3 dX9_met_100 lX9_253 rfl (os_17 hO) rfl rfl (Nat.le_of_ble_eq_true rfl) (Nat.le_of_ble_eq_true rfl) ?_
        refine sp_isPower (d + 70) hbl.1 hA1 (by omega) (show (bf (n j) (E j) 6).2 ≤ 12 by omega) (fun r2 hr2 => ?_)
        try dsimp only [zz_s1, zz_s2, zz_kill, zz_ent, zz_fl, List.set_cons_zero, List.set_cons_succ, List.getElem?_cons_zero, List.getElem?_cons_succ, Option.toList_some, Option.toList_none, List.cons_append, List.nil_append, List.append_nil, List.length_cons, List.length_nil, List.replicate_succ, List.replicate_zero, Nat.reduceAdd, Nat.reduceSub]
        refine zz_if_eq (tgt := 110) dX9_met_103 (by decide) (fun q3 => ?_) (fun q3 => ?_)
        · refine zz_iload_n rfl dX9_met_110 ?_
          refine zz_ireturn dX9_met_111 rfl (by first | rfl | decide | assumption) ?_
          refine fin I3 b0 k1 ?_
          rw [if_neg (fun z => hr2.f q3 z.2.2), or_0I]
        · skip
          refine zz_iload_n rfl dX9_met_106 ?_
          refine zz_iconst (v := 2) (by decide) dX9_met_107 ?_
          refine zz_ior dX9_met_108 ?_
          refine zz_istore_n dX9_met_109 (by decide) ?_
          refine zz_iload_n rfl dX9_met_110 ?_
          refine zz_ireturn dX9_met_111 rfl (by first | rfl | decide | assumption) ?_
          refine fin I3 _ k1 ?_
          rw [if_pos ⟨hff, hB1, hr2.t q3⟩]
      · try dsimp only [zz_s1, zz_s2, zz_kill, zz_ent, zz_fl, List.set_cons_zero, List.set_cons_succ, List.getElem?_cons_zero, List.getElem?_cons_succ, Option.toList_some, Option.toList_none, List.cons_append, List.nil_append, List.append_nil, List.length_cons, List.length_nil, List.replicate_succ, List.replicate_zero, Nat.reduceAdd, Nat.reduceSub]
        refine zz_if_eq (tgt := 110) dX9_met_61 (by decide) (fun q1 => ?_) (fun q1 => ?_)
        · refine zz_iload_n rfl dX9_met_110 ?_
          refine zz_ireturn dX9_met_111 rfl (by first | rfl | decide | assumption) ?_
          refine fin I2 b0 (fun _ _ => rfl) ?_
          rw [if_neg (fun z => hff z.1), or_0I]
        · exact absurd rfl q1
    refine zz_if_eq (tgt := 53) dX9_met_46 (by decide) (fun q1 => ?_) (fun q1 => ?_)
    · refine tail 0 ?_
      rw [if_neg (hr1.f q1)]
    · skip
      refine zz_iload_n rfl dX9_met_49 ?_
      refine zz_iconst (v := 1) (by decide) dX9_met_50 ?_
      refine zz_ior dX9_met_51 ?_
      refine zz_istore_n dX9_met_52 (by decide) ?_
      try dsimp only [zz_s1, zz_s2, zz_kill, zz_ent, zz_fl, List.set_cons_zero, List.set_cons_succ, List.getElem?_cons_zero, List.getElem?_cons_succ, Option.toList_some, Option.toList_none, List.cons_append, List.nil_append, List.append_nil, List.length_cons, List.length_nil, List.replicate_succ, List.replicate_zero, Nat.reduceAdd, Nat.reduceSub]
      refine tail _ ?_
      rw [if_pos (hr1.t q1)]
      rfl
  · try dsimp only [zz_s1, zz_s2, zz_kill, zz_ent, zz_fl, List.set_cons_zero, List.set_cons_succ, List.getElem?_cons_zero, List.getElem?_cons_succ, Option.toList_some, Option.toList_none, List.cons_append, List.nil_append, List.append_nil, List.length_cons, List.length_nil, List.replicate_succ, List.replicate_zero, Nat.reduceAdd, Nat.reduceSub]
    refine zz_nstore_n dX9_met_5 (by decide) ?_
    refine zz_nload_n rfl dX9_met_6 ?_
    try dsimp only [zz_s1, zz_s2, zz_kill, zz_ent, zz_fl, List.set_cons_zero, List.set_cons_succ, List.getElem?_cons_zero, List.getElem?_cons_succ, Option.toList_some, Option.toList_none, List.cons_append, List.nil_append, List.append_nil, List.length_cons, List.length_nil, List.replicate_succ, List.replicate_zero, Nat.reduceAdd, Nat.reduceSub]
    refine zz_ifnonnullN dX9_met_7 ?_
    try dsimp only [zz_s1, zz_s2, zz_kill, zz_ent, zz_fl, List.set_cons_zero, List.set_cons_succ, List.getElem?_cons_zero, List.getElem?_cons_succ, Option.toList_some, Option.toList_none, List.cons_append, List.nil_append, List.append_nil, List.length_cons, List.length_nil, List.replicate_succ, List.replicate_zero, Nat.reduceAdd, Nat.reduceSub]
    refine zz_bipush (v := (-2)) (by decide) dX9_met_10 ?_
    refine zz_ireturn dX9_met_12 rfl (by first | rfl | decide | assumption) ?_
    exact h2 hv
theorem sp_X10_met (d : Nat) (hO : OK M) {l : Int32} {n : Nat → Nat} {kd ag : Nat → Int32} {E : Nat → Nat → Nat → Bool} {sg : Nat → Nat → Int32} {rw : Nat → Nat → Nat → Int32} (hn : ∀ j, j < 8 → 1 ≤ n j ∧ n j ≤ 24) (hE : ∀ j, j < 8 → wfE (n j) (E j)) (hr : ∀ j, j < 8 → rok (rw j)) (hC : ∀ j, j < 8 → ML I j (n j) (kd j) (ag j) (E j) (sg j) (rw j))
    (h1 : ∀ j, j < 8 → l = nI j → ∀ (I' : zz_I) (J' : zz_J) (kk : Nat), (∀ c, c ≠ 259 → c ≠ 271 → c ≠ 272 → I' c = I c) → (∀ i, i ≠ 13 → i ≠ 25 → i ≠ 28 → I' 259 i = I 259 i) → (∀ c, c ≠ 259 → c ≠ 269 → c ≠ 274 → c ≠ 275 → J' c = J c) → hp_N (n j) (E j) (hp_a (n j) (E j)) kk → Q (some (.int (mtv (n j) (E j) (rw j) kk))) M I' J')
    (h2 : ¬ vp_in l 8 → Q (some (.int (-2))) M I J) : zz_D mX10_met (d + 69) [.ref 259, .int l] M I J Q := by
  refine zz_D_of rfl (Nat.le_of_ble_eq_true rfl) ?_
  try dsimp only [zz_s1, zz_s2, zz_kill, zz_ent, zz_fl, List.set_cons_zero, List.set_cons_succ, List.getElem?_cons_zero, List.getElem?_cons_succ, Option.toList_some, Option.toList_none, List.cons_append, List.nil_append, List.append_nil, List.length_cons, List.length_nil, List.replicate_succ, List.replicate_zero, Nat.reduceAdd, Nat.reduceSub]
  refine zz_iload_n rfl dX10_met_0 ?_
  try dsimp only [zz_s1, zz_s2, zz_kill, zz_ent, zz_fl, List.set_cons_zero, List.set_cons_succ, List.getElem?_cons_zero, List.getElem?_cons_succ, Option.toList_some, Option.toList_none, List.cons_append, List.nil_append, List.append_nil, List.length_cons, List.length_nil, List.replicate_succ, List.replicate_zero, Nat.reduceAdd, Nat.reduceSub]
  refine zz_cS1 dX10_met_1 lX10_85 rfl (Nat.le_of_ble_eq_true rfl) (Nat.le_of_ble_eq_true rfl) ?_
  refine sp_isLine (d + 67) (fun r hr0 => ?_)
  try dsimp only [zz_s1, zz_s2, zz_kill, zz_ent, zz_fl, List.set_cons_zero, List.set_cons_succ, List.getElem?_cons_zero, List.getElem?_cons_succ, Option.toList_some, Option.toList_none, List.cons_append, List.nil_append, List.append_nil, List.length_cons, List.length_nil, List.replicate_succ, List.replicate_zero, Nat.reduceAdd, Nat.reduceSub]
  refine zz_if_ne (tgt := 10) dX10_met_4 (by decide) (fun q1 => ?_) (fun q1 => ?_)
  rotate_left
  · skip
    refine zz_bipush (v := (-2)) (by decide) dX10_met_7 ?_
    refine zz_ireturn dX10_met_9 rfl (by first | rfl | decide | assumption) ?_
    exact h2 (hr0.f q1)
  obtain ⟨j, hj, rfl⟩ := vp_in_of (hr0.t q1) (by decide)
  have hc := hC j hj
  have hnj := hn j hj
  have hbl := bf_le (n := n j) (E := E j) 6
  have hbp := bf_pos (E := E j) hnj.1 hnj.2 6 (by decide)
  refine zz_aload_n rfl dX10_met_10 ?_
  refine zz_iload_n rfl dX10_met_11 ?_
  try dsimp only [zz_s1, zz_s2, zz_kill, zz_ent, zz_fl, List.set_cons_zero, List.set_cons_succ, List.getElem?_cons_zero, List.getElem?_cons_succ, Option.toList_some, Option.toList_none, List.cons_append, List.nil_append, List.append_nil, List.length_cons, List.length_nil, List.replicate_succ, List.replicate_zero, Nat.reduceAdd, Nat.reduceSub]
  refine zz_cV1 dX10_met_12 lX10_254 rfl (os_259 hO) rfl rfl (Nat.le_of_ble_eq_true rfl) (Nat.le_of_ble_eq_true rfl) ?_
  refine sp_bestOf d hO hj hnj.1 hnj.2 (hE j hj) hc (fun I1 J1 a1 a2 a3 a4 => ?_)
  try dsimp only [zz_s1, zz_s2, zz_kill, zz_ent, zz_fl, List.set_cons_zero, List.set_cons_succ, List.getElem?_cons_zero, List.getElem?_cons_succ, Option.toList_some, Option.toList_none, List.cons_append, List.nil_append, List.append_nil, List.length_cons, List.length_nil, List.replicate_succ, List.replicate_zero, Nat.reduceAdd, Nat.reduceSub]
  refine zz_istore_n dX10_met_15 (by decide) ?_
  refine zz_aload_n rfl dX10_met_16 ?_
  refine zz_geti dX10_met_17 fX10_251 rfl (os_259 hO) ?_
  refine zz_istore_n dX10_met_20 (by decide) ?_
  refine zz_aload_n rfl dX10_met_21 ?_
  refine zz_iload_n rfl dX10_met_22 ?_
  try dsimp only [zz_s1, zz_s2, zz_kill, zz_ent, zz_fl, List.set_cons_zero, List.set_cons_succ, List.getElem?_cons_zero, List.getElem?_cons_succ, Option.toList_some, Option.toList_none, List.cons_append, List.nil_append, List.append_nil, List.length_cons, List.length_nil, List.replicate_succ, List.replicate_zero, Nat.reduceAdd, Nat.reduceSub]
  rw [a4]
  have hc1 : ML I1 j (n j) (kd j) (ag j) (E j) (sg j) (rw j) := ML_of (fun c h1 h2 => a1 c (by omega)) hc
  refine zz_cV1 dX10_met_23 lX10_196 rfl (os_259 hO) rfl rfl (Nat.le_of_ble_eq_true rfl) (Nat.le_of_ble_eq_true rfl) ?_
  refine sp_heapsOf d hO hj hnj.1 hnj.2 (hE j hj) hc1 (fun I2 J2 kk r b1 b2 b3 b4 b5 b6 => ?_)
  try dsimp only [zz_s1, zz_s2, zz_kill, zz_ent, zz_fl, List.set_cons_zero, List.set_cons_succ, List.getElem?_cons_zero, List.getElem?_cons_succ, Option.toList_some, Option.toList_none, List.cons_append, List.nil_append, List.append_nil, List.length_cons, List.length_nil, List.replicate_succ, List.replicate_zero, Nat.reduceAdd, Nat.reduceSub]
  have hkk := hp_N_le b4 hp_an
  have eI2 : ∀ c, c ≠ 259 → c ≠ 271 → c ≠ 272 → I2 c = I c := fun c c1 c2 c3 => by rw [b1 c c1 c2 c3]; exact a1 c c1
  have eF2 : ∀ i, i ≠ 13 → i ≠ 28 → I2 259 i = I 259 i := fun i c1 c2 => by rw [b2 i c1]; exact a2 i c1 c2
  have eJ2 : ∀ c, c ≠ 269 → c ≠ 274 → c ≠ 275 → J2 c = J c := fun c c1 c2 c3 => by rw [b3 c c1]; exact a3 c c1 c2 c3
  have hc2 : ML I2 j (n j) (kd j) (ag j) (E j) (sg j) (rw j) := ML_of (fun c h1 h2 => eI2 c (by omega) (by omega) (by omega)) hc
  refine zz_iload_n rfl dX10_met_26 ?_
  try dsimp only [zz_s1, zz_s2, zz_kill, zz_ent, zz_fl, List.set_cons_zero, List.set_cons_succ, List.getElem?_cons_zero, List.getElem?_cons_succ, Option.toList_some, Option.toList_none, List.cons_append, List.nil_append, List.append_nil, List.length_cons, List.length_nil, List.replicate_succ, List.replicate_zero, Nat.reduceAdd, Nat.reduceSub]
  refine zz_cS2 dX10_met_27 lX10_145 rfl (Nat.le_of_ble_eq_true rfl) (Nat.le_of_ble_eq_true rfl) ?_
  refine sp_power (d + 68) (show kk < 2 ^ 31 by omega) (show (bf (n j) (E j) 6).2 < 1000 by omega) ?_
  try dsimp only [zz_s1, zz_s2, zz_kill, zz_ent, zz_fl, List.set_cons_zero, List.set_cons_succ, List.getElem?_cons_zero, List.getElem?_cons_succ, Option.toList_some, Option.toList_none, List.cons_append, List.nil_append, List.append_nil, List.length_cons, List.length_nil, List.replicate_succ, List.replicate_zero, Nat.reduceAdd, Nat.reduceSub]
  have hpw := pow_le6 (show kk ≤ 24 by omega) (show (bf (n j) (E j) 6).2 ≤ 6 by omega)
  refine zz_iload_n rfl dX10_met_30 ?_
  try dsimp only [zz_s1, zz_s2, zz_kill, zz_ent, zz_fl, List.set_cons_zero, List.set_cons_succ, List.getElem?_cons_zero, List.getElem?_cons_succ, Option.toList_some, Option.toList_none, List.cons_append, List.nil_append, List.append_nil, List.length_cons, List.length_nil, List.replicate_succ, List.replicate_zero, Nat.reduceAdd, Nat.reduceSub]
  have tail : ∀ b0 : Int32, b0 = (if kk ^ (bf (n j) (E j) 6).2 = (bf (n j) (E j) 6).1 then 1 else 0) → zz_G mX10_met (d + 69) 0 39 [some (.ref 259), some (.int (nI j)), some (.int (nI (bf (n j) (E j) 6).2)), some (.int (nI (bf (n j) (E j) 6).1)), none] [.int b0] M I2 J2 Q := by
    intro b0 hb0
    have fin : ∀ (I3 : zz_I) (J3 : zz_J) (x : Int32), (∀ c, c ≠ 259 → I3 c = I2 c) → (∀ i, i ≠ 25 → I3 259 i = I2 259 i) → (∀ c, c ≠ 259 → c ≠ 274 → c ≠ 275 → J3 c = J2 c) → b0 ||| (if ff (n j) (E j) (rw j) = -1 ∧ (bs (rw j) (n j)).2.1 / Nat.gcd (bs (rw j) (n j)).1 (bs (rw j) (n j)).2.1 = 1 ∧ ((bs (rw j) (n j)).1 / Nat.gcd (bs (rw j) (n j)).1 (bs (rw j) (n j)).2.1) ^ (bf (n j) (E j) 6).2 = (bf (n j) (E j) 6).1 then 2 else 0) = x → Q (some (.int x)) M I3 J3 := by
      intro I3 J3 x k1 k2 k3 k4
      rw [← k4, hb0]
      exact h1 j hj rfl I3 J3 kk (fun c c1 c2 c3 => by rw [k1 c c1]; exact eI2 c c1 c2 c3) (fun i c1 c2 c3 => by rw [k2 i c2]; exact eF2 i c1 c3) (fun c c1 c2 c3 c4 => by rw [k3 c c1 c3 c4]; exact eJ2 c c2 c3 c4) b4
    refine zz_istore dX10_met_39 (by decide) ?_
    refine zz_aload_n rfl dX10_met_41 ?_
    refine zz_iload_n rfl dX10_met_42 ?_
    try dsimp only [zz_s1, zz_s2, zz_kill, zz_ent, zz_fl, List.set_cons_zero, List.set_cons_succ, List.getElem?_cons_zero, List.getElem?_cons_succ, Option.toList_some, Option.toList_none, List.cons_append, List.nil_append, List.append_nil, List.length_cons, List.length_nil, List.replicate_succ, List.replicate_zero, Nat.reduceAdd, Nat.reduceSub]
    refine zz_cV1 dX10_met_43 lX10_228 rfl (os_259 hO) rfl rfl (Nat.le_of_ble_eq_true rfl) (Nat.le_of_ble_eq_true rfl) ?_
    refine sp_stands (d + 66) hO hj hnj.2 hc2 ?_
    try dsimp only [zz_s1, zz_s2, zz_kill, zz_ent, zz_fl, List.set_cons_zero, List.set_cons_succ, List.getElem?_cons_zero, List.getElem?_cons_succ, Option.toList_some, Option.toList_none, List.cons_append, List.nil_append, List.append_nil, List.length_cons, List.length_nil, List.replicate_succ, List.replicate_zero, Nat.reduceAdd, Nat.reduceSub]
    refine zz_iconst (v := (-1)) (by decide) dX10_met_46 ?_
    try dsimp only [zz_s1, zz_s2, zz_kill, zz_ent, zz_fl, List.set_cons_zero, List.set_cons_succ, List.getElem?_cons_zero, List.getElem?_cons_succ, Option.toList_some, Option.toList_none, List.cons_append, List.nil_append, List.append_nil, List.length_cons, List.length_nil, List.replicate_succ, List.replicate_zero, Nat.reduceAdd, Nat.reduceSub]
    refine zz_icmp_eq (tgt := 53) dX10_met_47 (by decide) (fun q2 => ?_) (fun q2 => ?_)
    rotate_left
    · skip
      refine zz_iload rfl dX10_met_50 ?_
      refine zz_ireturn dX10_met_52 rfl (by first | rfl | decide | assumption) ?_
      refine fin I2 J2 b0 (fun _ _ => rfl) (fun _ _ => rfl) (fun _ _ _ _ => rfl) ?_
      rw [if_neg (fun z => q2 z.1), or_0I]
    have hff : ff (n j) (E j) (rw j) = -1 := q2
    have hbn := bs_le (hr j hj) (n j) hnj.2
    have hbq := bs_pos (hr j hj) hnj.2 (ff_ok hnj.2 hff) (n j) (Nat.le_refl _)
    have hb0' := hbq.1
    have hA2 : (bs (rw j) (n j)).1 / Nat.gcd (bs (rw j) (n j)).1 (bs (rw j) (n j)).2.1 ≤ 29160000 := Nat.le_trans (Nat.div_le_self _ _) hbn.1
    have hB2 : (bs (rw j) (n j)).2.1 / Nat.gcd (bs (rw j) (n j)).1 (bs (rw j) (n j)).2.1 ≤ 29160000 := Nat.le_trans (Nat.div_le_self _ _) hbn.2.1
    have hmt := mt_iff (a := (bs (rw j) (n j)).1) (b := (bs (rw j) (n j)).2.1) (s := (bf (n j) (E j) 6).1) (k := (bf (n j) (E j) 6).2) hb0' hbp.2
    refine zz_aload_n rfl dX10_met_53 ?_
    refine zz_iload_n rfl dX10_met_54 ?_
    try dsimp only [zz_s1, zz_s2, zz_kill, zz_ent, zz_fl, List.set_cons_zero, List.set_cons_succ, List.getElem?_cons_zero, List.getElem?_cons_succ, Option.toList_some, Option.toList_none, List.cons_append, List.nil_append, List.append_nil, List.length_cons, List.length_nil, List.replicate_succ, List.replicate_zero, Nat.reduceAdd, Nat.reduceSub]
    refine zz_cV1 dX10_met_55 lX10_231 rfl (os_259 hO) rfl rfl (Nat.le_of_ble_eq_true rfl) (Nat.le_of_ble_eq_true rfl) ?_
    refine sp_findBound (d + 66) hO hj hnj.1 hnj.2 (hr j hj) hc2 (ff_ok hnj.2 hff) (fun I3 J3 k1 k2 k3 k4 k5 k6 => ?_)
    try dsimp only [zz_s1, zz_s2, zz_kill, zz_ent, zz_fl, List.set_cons_zero, List.set_cons_succ, List.getElem?_cons_zero, List.getElem?_cons_succ, Option.toList_some, Option.toList_none, List.cons_append, List.nil_append, List.append_nil, List.length_cons, List.length_nil, List.replicate_succ, List.replicate_zero, Nat.reduceAdd, Nat.reduceSub]
    generalize (bs (rw j) (n j)).1 / Nat.gcd (bs (rw j) (n j)).1 (bs (rw j) (n j)).2.1 = A at *
    generalize (bs (rw j) (n j)).2.1 / Nat.gcd (bs (rw j) (n j)).1 (bs (rw j) (n j)).2.1 = B at *
    have pbig : ∀ x : Nat, x ≤ 29160000 → x ^ (bf (n j) (E j) 6).2 ≤ (2 ^ 25) ^ 6 := fun x hx => Nat.le_trans (Nat.pow_le_pow_left (show x ≤ 2 ^ 25 by omega) _) (Nat.pow_le_pow_right (by decide) hbl.2)
    have v1 : (bf (n j) (E j) 6).1 * B ^ (bf (n j) (E j) 6).2 < 1000000000 ^ 12 := Nat.lt_of_le_of_lt (Nat.mul_le_mul hbl.1 (pbig B hB2)) (by decide)
    have v2 : 1 * A ^ (bf (n j) (E j) 6).2 < 1000000000 ^ 12 := Nat.lt_of_le_of_lt (Nat.mul_le_mul (Nat.le_refl 1) (pbig A hA2)) (by decide)
    refine zz_aload_n rfl dX10_met_58 ?_
    refine zz_getr dX10_met_59 fX10_67 (fun _ _ _ _ => rfl) (os_259 hO) (or_259_26 hO) ?_
    refine zz_iload_n rfl dX10_met_62 ?_
    refine zz_aload_n rfl dX10_met_63 ?_
    refine zz_getl dX10_met_64 fX10_219 rfl (os_259 hO) ?_
    refine zz_iload_n rfl dX10_met_67 ?_
    try dsimp only [zz_s1, zz_s2, zz_kill, zz_ent, zz_fl, List.set_cons_zero, List.set_cons_succ, List.getElem?_cons_zero, List.getElem?_cons_succ, Option.toList_some, Option.toList_none, List.cons_append, List.nil_append, List.append_nil, List.length_cons, List.length_nil, List.replicate_succ, List.replicate_zero, Nat.reduceAdd, Nat.reduceSub]
    rw [k5]
    refine zz_cS4 dX10_met_68 lX10_236 rfl (Nat.le_of_ble_eq_true rfl) (Nat.le_of_ble_eq_true rfl) ?_
    refine sp_X10_raise (c := 274) (u := (bf (n j) (E j) 6).1) (s := B) (d + 68) (os_274 hO) (by omega) (by omega) (by omega) (fun J4 m1 m2 => ?_)
    try dsimp only [zz_s1, zz_s2, zz_kill, zz_ent, zz_fl, List.set_cons_zero, List.set_cons_succ, List.getElem?_cons_zero, List.getElem?_cons_succ, Option.toList_some, Option.toList_none, List.cons_append, List.nil_append, List.append_nil, List.length_cons, List.length_nil, List.replicate_succ, List.replicate_zero, Nat.reduceAdd, Nat.reduceSub]
    refine zz_aload_n rfl dX10_met_71 ?_
    refine zz_getr dX10_met_72 fX10_70 (fun _ _ _ _ => rfl) (os_259 hO) (or_259_27 hO) ?_
    refine zz_iconst (v := 1) (by decide) dX10_met_75 ?_
    refine zz_aload_n rfl dX10_met_76 ?_
    refine zz_getl dX10_met_77 fX10_223 rfl (os_259 hO) ?_
    refine zz_iload_n rfl dX10_met_80 ?_
    try dsimp only [zz_s1, zz_s2, zz_kill, zz_ent, zz_fl, List.set_cons_zero, List.set_cons_succ, List.getElem?_cons_zero, List.getElem?_cons_succ, Option.toList_some, Option.toList_none, List.cons_append, List.nil_append, List.append_nil, List.length_cons, List.length_nil, List.replicate_succ, List.replicate_zero, Nat.reduceAdd, Nat.reduceSub]
    rw [m1 259 (by decide), k4]
    refine zz_cS4 dX10_met_81 lX10_236 rfl (Nat.le_of_ble_eq_true rfl) (Nat.le_of_ble_eq_true rfl) ?_
    refine sp_X10_raise (c := 275) (u := 1) (s := A) (d + 68) (os_275 hO) (by decide) (by omega) (by omega) (fun J5 m3 m4 => ?_)
    try dsimp only [zz_s1, zz_s2, zz_kill, zz_ent, zz_fl, List.set_cons_zero, List.set_cons_succ, List.getElem?_cons_zero, List.getElem?_cons_succ, Option.toList_some, Option.toList_none, List.cons_append, List.nil_append, List.append_nil, List.length_cons, List.length_nil, List.replicate_succ, List.replicate_zero, Nat.reduceAdd, Nat.reduceSub]
    refine zz_aload_n rfl dX10_met_84 ?_
    try dsimp only [zz_s1, zz_s2, zz_kill, zz_ent, zz_fl, List.set_cons_zero, List.set_cons_succ, List.getElem?_cons_zero, List.getElem?_cons_succ, Option.toList_some, Option.toList_none, List.cons_append, List.nil_append, List.append_nil, List.length_cons, List.length_nil, List.replicate_succ, List.replicate_zero, Nat.reduceAdd, Nat.reduceSub]
    refine zz_cV0 dX10_met_85 lX10_240 rfl (os_259 hO) rfl rfl (Nat.le_of_ble_eq_true rfl) (Nat.le_of_ble_eq_true rfl) ?_
    refine sp_X10_held (d + 68) hO v1 v2 (fun i hi => by rw [m3 274 (by decide)]; exact m2 i hi) m4 ?_
    try dsimp only [zz_s1, zz_s2, zz_kill, zz_ent, zz_fl, List.set_cons_zero, List.set_cons_succ, List.getElem?_cons_zero, List.getElem?_cons_succ, Option.toList_some, Option.toList_none, List.cons_append, List.nil_append, List.append_nil, List.length_cons, List.length_nil, List.replicate_succ, List.replicate_zero, Nat.reduceAdd, Nat.reduceSub]
    have eJ5 : ∀ c, c ≠ 259 → c ≠ 274 → c ≠ 275 → J5 c = J2 c := fun c c1 c2 c3 => by rw [m3 c c3, m1 c c2, k3 c c1]
    have hcm := cmN_0 ((bf (n j) (E j) 6).1 * B ^ (bf (n j) (E j) 6).2) (1 * A ^ (bf (n j) (E j) 6).2)
    refine zz_if_ne (tgt := 98) dX10_met_88 (by decide) (fun q3 => ?_) (fun q3 => ?_)
    · refine zz_iload rfl dX10_met_98 ?_
      refine zz_ireturn dX10_met_100 rfl (by first | rfl | decide | assumption) ?_
      refine fin I3 J5 b0 k1 k2 eJ5 ?_
      rw [if_neg (fun z => q3 (hcm.mpr (hmt.mpr z.2))), or_0I]
    · skip
      refine zz_iload rfl dX10_met_91 ?_
      refine zz_iconst (v := 2) (by decide) dX10_met_93 ?_
      refine zz_ior dX10_met_94 ?_
      refine zz_goto (tgt := 100) dX10_met_95 (by decide) ?_
      refine zz_ireturn dX10_met_100 rfl (by first | rfl | decide | assumption) ?_
      refine fin I3 J5 _ k1 k2 eJ5 ?_
      rw [if_pos ⟨hff, hmt.mp (hcm.mp q3)⟩]
  refine zz_icmp_ne (tgt := 38) dX10_met_31 (by decide) (fun q2 => ?_) (fun q2 => ?_)
  · refine zz_iconst (v := 0) (by decide) dX10_met_38 ?_
    try dsimp only [zz_s1, zz_s2, zz_kill, zz_ent, zz_fl, List.set_cons_zero, List.set_cons_succ, List.getElem?_cons_zero, List.getElem?_cons_succ, Option.toList_some, Option.toList_none, List.cons_append, List.nil_append, List.append_nil, List.length_cons, List.length_nil, List.replicate_succ, List.replicate_zero, Nat.reduceAdd, Nat.reduceSub]
    refine tail 0 ?_
    rw [if_neg (fun z => q2 (by rw [z]))]
  · skip
    refine zz_iconst (v := 1) (by decide) dX10_met_34 ?_
    refine zz_goto (tgt := 39) dX10_met_35 (by decide) ?_
    try dsimp only [zz_s1, zz_s2, zz_kill, zz_ent, zz_fl, List.set_cons_zero, List.set_cons_succ, List.getElem?_cons_zero, List.getElem?_cons_succ, Option.toList_some, Option.toList_none, List.cons_append, List.nil_append, List.append_nil, List.length_cons, List.length_nil, List.replicate_succ, List.replicate_zero, Nat.reduceAdd, Nat.reduceSub]
    refine tail 1 ?_
    rw [if_pos ((nI_eq (by omega) (by omega)).mp q2)]
end PMet

