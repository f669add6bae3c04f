/-! ===== taken ===== -/
/-- words of k letters, one taken for the other -/
def tk (n : Nat) (E : Nat → Nat → Bool) : Nat → Nat → Nat → Prop
  | 0, _, _ => True
  | k + 1, v, w => lk E (v % n) (w % n) ∧ tk n E k (v / n) (w / n)
section PTaken
variable {M : zz_M} {I : zz_I} {J : zz_J} {Q : zz_Q} {n : Nat → Nat} {kd ag : Nat → Int32} {E : Nat → Nat → Nat → Bool} {sg : Nat → Nat → Int32} {rw : Nat → Nat → Nat → Int32}
theorem pow_le6 {m k : Nat} (hm : m ≤ 24) (hk : k ≤ 6) : m ^ k ≤ 191102976 := by
  have h1 : m ^ k ≤ 24 ^ k := Nat.pow_le_pow_left hm k
  have h2 : 24 ^ k ≤ 24 ^ 6 := Nat.pow_le_pow_right (by decide) hk
  have h3 : (24 : Nat) ^ 6 = 191102976 := by decide
  omega
theorem sp_power (d : Nat) {m k : Nat} (hm : m < 2 ^ 31) (hk : k < 1000) (hQ : Q (some (.int (nI (m ^ k)))) M I J) : zz_D mX10_power d [.int (nI m), .int (nI k)] M I J Q := by
  refine zz_D_of rfl (Nat.le_of_ble_eq_true rfl) ?_
  try dsimp only [zz_s1, zz_s2, zz_kill, zz_ent, zz_fl, List.set_cons_zero, List.set_cons_succ, List.getElem?_cons_zero, List.getElem?_cons_succ, Option.toList_some, Option.toList_none, List.cons_append, List.nil_append, List.append_nil, List.length_cons, List.length_nil, List.replicate_succ, List.replicate_zero, Nat.reduceAdd, Nat.reduceSub]
  refine zz_iconst (v := 1) (by decide) dX10_power_0 ?_
  refine zz_istore_n dX10_power_1 (by decide) ?_
  refine zz_iconst (v := 0) (by decide) dX10_power_2 ?_
  refine zz_istore_n dX10_power_3 (by decide) ?_
  try dsimp only [zz_s1, zz_s2, zz_kill, zz_ent, zz_fl, List.set_cons_zero, List.set_cons_succ, List.getElem?_cons_zero, List.getElem?_cons_succ, Option.toList_some, Option.toList_none, List.cons_append, List.nil_append, List.append_nil, List.length_cons, List.length_nil, List.replicate_succ, List.replicate_zero, Nat.reduceAdd, Nat.reduceSub]
  have loop : ∀ (r i : Nat), i + r = k → zz_G mX10_power d 0 4 [some (.int (nI m)), some (.int (nI k)), some (.int (nI (m ^ i))), some (.int (nI i))] [] M I J Q := by
    intro r
    induction r with
    | zero =>
      intro i hi
      have e : i = k := by omega
      subst e
      refine zz_iload_n rfl dX10_power_4 ?_
      refine zz_iload_n rfl dX10_power_5 ?_
      try dsimp only [zz_s1, zz_s2, zz_kill, zz_ent, zz_fl, List.set_cons_zero, List.set_cons_succ, List.getElem?_cons_zero, List.getElem?_cons_succ, Option.toList_some, Option.toList_none, List.cons_append, List.nil_append, List.append_nil, List.length_cons, List.length_nil, List.replicate_succ, List.replicate_zero, Nat.reduceAdd, Nat.reduceSub]
      refine zz_icmp_ge (tgt := 19) dX10_power_6 (by decide) (fun h => ?_) (fun h => ?_)
      · refine zz_iload_n rfl dX10_power_19 ?_
        refine zz_ireturn dX10_power_20 rfl (by first | rfl | decide | assumption) ?_
        exact hQ
      · exact absurd (nI_le (Nat.le_refl i) (by omega)) h
    | succ r ih =>
      intro i hi
      refine zz_iload_n rfl dX10_power_4 ?_
      refine zz_iload_n rfl dX10_power_5 ?_
      try dsimp only [zz_s1, zz_s2, zz_kill, zz_ent, zz_fl, List.set_cons_zero, List.set_cons_succ, List.getElem?_cons_zero, List.getElem?_cons_succ, Option.toList_some, Option.toList_none, List.cons_append, List.nil_append, List.append_nil, List.length_cons, List.length_nil, List.replicate_succ, List.replicate_zero, Nat.reduceAdd, Nat.reduceSub]
      refine zz_icmp_ge (tgt := 19) dX10_power_6 (by decide) (fun h => ?_) (fun h => ?_)
      · exact absurd h (nI_ge (by omega) (by omega))
      · skip
        refine zz_iload_n rfl dX10_power_9 ?_
        refine zz_iload_n rfl dX10_power_10 ?_
        refine zz_imul dX10_power_11 ?_
        refine zz_istore_n dX10_power_12 (by decide) ?_
        refine zz_iinc dX10_power_13 rfl (congrArg (HAdd.hAdd _) (show Int32.ofInt 1 = 1 by decide)) (by decide) ?_
        refine zz_goto (tgt := 4) dX10_power_16 (by decide) ?_
        try dsimp only [zz_s1, zz_s2, zz_kill, zz_ent, zz_fl, List.set_cons_zero, List.set_cons_succ, List.getElem?_cons_zero, List.getElem?_cons_succ, Option.toList_some, Option.toList_none, List.cons_append, List.nil_append, List.append_nil, List.length_cons, List.length_nil, List.replicate_succ, List.replicate_zero, Nat.reduceAdd, Nat.reduceSub]
        rw [nI_1, pk_mul, ← Nat.pow_succ]
        exact ih (i + 1) (by omega)
  have h0 := loop k 0 (by omega)
  rw [Nat.pow_zero] at h0
  exact h0
theorem sp_areTaken (d : Nat) (hO : OK M) {l m k v w : Nat} {E : Nat → Nat → Bool} (hl : l < 8) (h1 : 1 ≤ m) (hm : m ≤ 24) (hs : I 260 l = nI m) (hE : ∀ a, a < 24 → ∀ b, b < 32 → bt (I 262 (24 * l + a)) b = E a b) (hk : k < 1000) (hv : v < 2 ^ 31) (hw : w < 2 ^ 31) (hQ : ∀ r : Int32, bo r (tk m E k v w) → Q (some (.int r)) M I J) : zz_D mX10_areTaken (d + 2) [.ref 259, .int (nI l), .int (nI k), .int (nI v), .int (nI w)] M I J Q := by
  have v1 : vp_in (nI l) 8 := vp_in_nI hl (by decide)
  have cl1 : (nI l).toNatClampNeg = l := nI_clamp (by omega)
  have ne0 : ¬ nI m = 0 := nI_ne0 (by omega) (by omega)
  have ne0' : ¬ I 260 (nI l).toNatClampNeg = 0 := by rw [cl1, hs]; exact ne0
  refine zz_D_of rfl (Nat.le_of_ble_eq_true rfl) ?_
  try dsimp only [zz_s1, zz_s2, zz_kill, zz_ent, zz_fl, List.set_cons_zero, List.set_cons_succ, List.getElem?_cons_zero, List.getElem?_cons_succ, Option.toList_some, Option.toList_none, List.cons_append, List.nil_append, List.append_nil, List.length_cons, List.length_nil, List.replicate_succ, List.replicate_zero, Nat.reduceAdd, Nat.reduceSub]
  refine zz_iload_n rfl dX10_areTaken_0 ?_
  refine zz_istore dX10_areTaken_1 (by decide) ?_
  refine zz_iload rfl dX10_areTaken_3 ?_
  refine zz_istore dX10_areTaken_5 (by decide) ?_
  refine zz_iconst (v := 0) (by decide) dX10_areTaken_7 ?_
  refine zz_istore dX10_areTaken_8 (by decide) ?_
  try dsimp only [zz_s1, zz_s2, zz_kill, zz_ent, zz_fl, List.set_cons_zero, List.set_cons_succ, List.getElem?_cons_zero, List.getElem?_cons_succ, Option.toList_some, Option.toList_none, List.cons_append, List.nil_append, List.append_nil, List.length_cons, List.length_nil, List.replicate_succ, List.replicate_zero, Nat.reduceAdd, Nat.reduceSub]
  have loop : ∀ (q i x y : Nat), i + q = k → x < 2 ^ 31 → y < 2 ^ 31 → (∀ r : Int32, bo r (tk m E q x y) → Q (some (.int r)) M I J) → zz_G mX10_areTaken (d + 2) 0 10 [some (.ref 259), some (.int (nI l)), some (.int (nI k)), some (.int (nI v)), some (.int (nI w)), some (.int (nI x)), some (.int (nI y)), some (.int (nI i))] [] M I J Q := by
    intro q
    induction q with
    | zero =>
      intro i x y hi hx hy hq
      have e : i = k := by omega
      subst e
      refine zz_iload rfl dX10_areTaken_10 ?_
      refine zz_iload_n rfl dX10_areTaken_12 ?_
      try dsimp only [zz_s1, zz_s2, zz_kill, zz_ent, zz_fl, List.set_cons_zero, List.set_cons_succ, List.getElem?_cons_zero, List.getElem?_cons_succ, Option.toList_some, Option.toList_none, List.cons_append, List.nil_append, List.append_nil, List.length_cons, List.length_nil, List.replicate_succ, List.replicate_zero, Nat.reduceAdd, Nat.reduceSub]
      refine zz_icmp_ge (tgt := 72) dX10_areTaken_13 (by decide) (fun h => ?_) (fun h => ?_)
      · refine zz_iconst (v := 1) (by decide) dX10_areTaken_72 ?_
        refine zz_ireturn dX10_areTaken_73 rfl (by first | rfl | decide | assumption) ?_
        exact hq 1 (bo.one trivial)
      · exact absurd (nI_le (Nat.le_refl i) (by omega)) h
    | succ q ih =>
      intro i x y hi hx hy hq
      have hxm : x % m < 24 := Nat.lt_of_lt_of_le (Nat.mod_lt _ (by omega)) hm
      have hym : y % m < 24 := Nat.lt_of_lt_of_le (Nat.mod_lt _ (by omega)) hm
      refine zz_iload rfl dX10_areTaken_10 ?_
      refine zz_iload_n rfl dX10_areTaken_12 ?_
      try dsimp only [zz_s1, zz_s2, zz_kill, zz_ent, zz_fl, List.set_cons_zero, List.set_cons_succ, List.getElem?_cons_zero, List.getElem?_cons_succ, Option.toList_some, Option.toList_none, List.cons_append, List.nil_append, List.append_nil, List.length_cons, List.length_nil, List.replicate_succ, List.replicate_zero, Nat.reduceAdd, Nat.reduceSub]
      refine zz_icmp_ge (tgt := 72) dX10_areTaken_13 (by decide) (fun h => ?_) (fun h => ?_)
      · exact absurd h (nI_ge (by omega) (by omega))
      · skip
        refine zz_aload_n rfl dX10_areTaken_16 ?_
        refine zz_iload_n rfl dX10_areTaken_17 ?_
        refine zz_iload rfl dX10_areTaken_18 ?_
        refine zz_aload_n rfl dX10_areTaken_20 ?_
        refine zz_getr dX10_areTaken_21 fX10_9 (fun _ _ _ _ => rfl) (os_259 hO) (or_259_0 hO) ?_
        refine zz_iload_n rfl dX10_areTaken_24 ?_
        refine zz_iald dX10_areTaken_25 (os_260 hO) v1 ?_
        refine zz_irem ne0' dX10_areTaken_26 ?_
        refine zz_iload rfl dX10_areTaken_27 ?_
        refine zz_aload_n rfl dX10_areTaken_29 ?_
        refine zz_getr dX10_areTaken_30 fX10_9 (fun _ _ _ _ => rfl) (os_259 hO) (or_259_0 hO) ?_
        refine zz_iload_n rfl dX10_areTaken_33 ?_
        refine zz_iald dX10_areTaken_34 (os_260 hO) v1 ?_
        refine zz_irem ne0' dX10_areTaken_35 ?_
        try dsimp only [zz_s1, zz_s2, zz_kill, zz_ent, zz_fl, List.set_cons_zero, List.set_cons_succ, List.getElem?_cons_zero, List.getElem?_cons_succ, Option.toList_some, Option.toList_none, List.cons_append, List.nil_append, List.append_nil, List.length_cons, List.length_nil, List.replicate_succ, List.replicate_zero, Nat.reduceAdd, Nat.reduceSub]
        rw [cl1, hs, show jv_rem (nI x) (nI m) = nI (x % m) from pk_rem hx (by omega) (by omega), show jv_rem (nI y) (nI m) = nI (y % m) from pk_rem hy (by omega) (by omega)]
        refine zz_cV3 dX10_areTaken_36 lX10_125 rfl (os_259 hO) rfl rfl (Nat.le_of_ble_eq_true rfl) (Nat.le_of_ble_eq_true rfl) ?_
        refine sp_isLike d hO hl hxm hym hE (fun r hr => ?_)
        try dsimp only [zz_s1, zz_s2, zz_kill, zz_ent, zz_fl, List.set_cons_zero, List.set_cons_succ, List.getElem?_cons_zero, List.getElem?_cons_succ, Option.toList_some, Option.toList_none, List.cons_append, List.nil_append, List.append_nil, List.length_cons, List.length_nil, List.replicate_succ, List.replicate_zero, Nat.reduceAdd, Nat.reduceSub]
        refine zz_if_ne (tgt := 44) dX10_areTaken_39 (by decide) (fun h2 => ?_) (fun h2 => ?_)
        · refine zz_iload rfl dX10_areTaken_44 ?_
          refine zz_aload_n rfl dX10_areTaken_46 ?_
          refine zz_getr dX10_areTaken_47 fX10_9 (fun _ _ _ _ => rfl) (os_259 hO) (or_259_0 hO) ?_
          refine zz_iload_n rfl dX10_areTaken_50 ?_
          refine zz_iald dX10_areTaken_51 (os_260 hO) v1 ?_
          refine zz_idiv ne0' dX10_areTaken_52 ?_
          refine zz_istore dX10_areTaken_53 (by decide) ?_
          refine zz_iload rfl dX10_areTaken_55 ?_
          refine zz_aload_n rfl dX10_areTaken_57 ?_
          refine zz_getr dX10_areTaken_58 fX10_9 (fun _ _ _ _ => rfl) (os_259 hO) (or_259_0 hO) ?_
          refine zz_iload_n rfl dX10_areTaken_61 ?_
          refine zz_iald dX10_areTaken_62 (os_260 hO) v1 ?_
          refine zz_idiv ne0' dX10_areTaken_63 ?_
          refine zz_istore dX10_areTaken_64 (by decide) ?_
          refine zz_iinc dX10_areTaken_66 rfl (congrArg (HAdd.hAdd _) (show Int32.ofInt 1 = 1 by decide)) (by decide) ?_
          refine zz_goto (tgt := 10) dX10_areTaken_69 (by decide) ?_
          try dsimp only [zz_s1, zz_s2, zz_kill, zz_ent, zz_fl, List.set_cons_zero, List.set_cons_succ, List.getElem?_cons_zero, List.getElem?_cons_succ, Option.toList_some, Option.toList_none, List.cons_append, List.nil_append, List.append_nil, List.length_cons, List.length_nil, List.replicate_succ, List.replicate_zero, Nat.reduceAdd, Nat.reduceSub]
          rw [nI_1, cl1, hs, pk_div hx (by omega) (by omega), pk_div hy (by omega) (by omega)]
          exact ih (i + 1) (x / m) (y / m) (by omega) (Nat.lt_of_le_of_lt (Nat.div_le_self _ _) hx) (Nat.lt_of_le_of_lt (Nat.div_le_self _ _) hy) (fun r2 hr3 => hq r2 (hr3.iff ⟨fun z => ⟨hr.t h2, z⟩, fun z => z.2⟩))
        · skip
          refine zz_iconst (v := 0) (by decide) dX10_areTaken_42 ?_
          refine zz_ireturn dX10_areTaken_43 rfl (by first | rfl | decide | assumption) ?_
          exact hq 0 (bo.zero fun z => hr.f h2 z.1)
  exact loop k 0 v w (by omega) hv hw hQ
theorem sp_X9_taken (d : Nat) (hO : OK M) {l K V W : Int32} (hn : ∀ j, j < 8 → 1 ≤ n j ∧ n j ≤ 24) (hC : ∀ j, j < 8 → CL I j (n j) (kd j) (ag j) (E j) (sg j) (rw j))
    (h1 : ∀ j k v w, j < 8 → 1 ≤ k → k ≤ 6 → v < n j ^ k → w < n j ^ k → v ≠ w → l = nI j → K = nI k → V = nI v → W = nI w → ∀ r : Int32, bo r (tk (n j) (E j) k v w) → Q (some (.int r)) M I J)
    (h2 : ¬ (∃ j k v w, j < 8 ∧ 1 ≤ k ∧ k ≤ 6 ∧ v < n j ^ k ∧ w < n j ^ k ∧ v ≠ w ∧ l = nI j ∧ K = nI k ∧ V = nI v ∧ W = nI w) → Q (some (.int (-2))) M I J) : zz_D mX9_taken (d + 3) [.ref 1, .int l, .int K, .int V, .int W] M I J Q := by
  refine zz_D_of rfl (Nat.le_of_ble_eq_true rfl) ?_
  try dsimp only [zz_s1, zz_s2, zz_kill, zz_ent, zz_fl, List.set_cons_zero, List.set_cons_succ, List.getElem?_cons_zero, List.getElem?_cons_succ, Option.toList_some, Option.toList_none, List.cons_append, List.nil_append, List.append_nil, List.length_cons, List.length_nil, List.replicate_succ, List.replicate_zero, Nat.reduceAdd, Nat.reduceSub]
  refine zz_aload_n rfl dX9_taken_0 ?_
  refine zz_iload_n rfl dX9_taken_1 ?_
  try dsimp only [zz_s1, zz_s2, zz_kill, zz_ent, zz_fl, List.set_cons_zero, List.set_cons_succ, List.getElem?_cons_zero, List.getElem?_cons_succ, Option.toList_some, Option.toList_none, List.cons_append, List.nil_append, List.append_nil, List.length_cons, List.length_nil, List.replicate_succ, List.replicate_zero, Nat.reduceAdd, Nat.reduceSub]
  refine zz_cV1 dX9_taken_2 lX9_100 rfl (os_1 hO) rfl rfl (Nat.le_of_ble_eq_true rfl) (Nat.le_of_ble_eq_true rfl) ?_
  refine sp_lineAt (d + 2) hO (fun j hj e => ?_) (fun hv => ?_)
  try dsimp only [zz_s1, zz_s2, zz_kill, zz_ent, zz_fl, List.set_cons_zero, List.set_cons_succ, List.getElem?_cons_zero, List.getElem?_cons_succ, Option.toList_some, Option.toList_none, List.cons_append, List.nil_append, List.append_nil, List.length_cons, List.length_nil, List.replicate_succ, List.replicate_zero, Nat.reduceAdd, Nat.reduceSub]
  · skip
    have hc := hC j hj
    have hnj := hn j hj
    refine zz_astore dX9_taken_5 (by decide) ?_
    refine zz_aload rfl dX9_taken_7 ?_
    try dsimp only [zz_s1, zz_s2, zz_kill, zz_ent, zz_fl, List.set_cons_zero, List.set_cons_succ, List.getElem?_cons_zero, List.getElem?_cons_succ, Option.toList_some, Option.toList_none, List.cons_append, List.nil_append, List.append_nil, List.length_cons, List.length_nil, List.replicate_succ, List.replicate_zero, Nat.reduceAdd, Nat.reduceSub]
    refine zz_ifnull dX9_taken_9 ?_
    try dsimp only [zz_s1, zz_s2, zz_kill, zz_ent, zz_fl, List.set_cons_zero, List.set_cons_succ, List.getElem?_cons_zero, List.getElem?_cons_succ, Option.toList_some, Option.toList_none, List.cons_append, List.nil_append, List.append_nil, List.length_cons, List.length_nil, List.replicate_succ, List.replicate_zero, Nat.reduceAdd, Nat.reduceSub]
    refine zz_iload_n rfl dX9_taken_12 ?_
    try dsimp only [zz_s1, zz_s2, zz_kill, zz_ent, zz_fl, List.set_cons_zero, List.set_cons_succ, List.getElem?_cons_zero, List.getElem?_cons_succ, Option.toList_some, Option.toList_none, List.cons_append, List.nil_append, List.append_nil, List.length_cons, List.length_nil, List.replicate_succ, List.replicate_zero, Nat.reduceAdd, Nat.reduceSub]
    refine zz_cS1 dX9_taken_13 lX9_169 rfl (Nat.le_of_ble_eq_true rfl) (Nat.le_of_ble_eq_true rfl) ?_
    refine sp_isLength (d + 2) (fun r hr => ?_)
    try dsimp only [zz_s1, zz_s2, zz_kill, zz_ent, zz_fl, List.set_cons_zero, List.set_cons_succ, List.getElem?_cons_zero, List.getElem?_cons_succ, Option.toList_some, Option.toList_none, List.cons_append, List.nil_append, List.append_nil, List.length_cons, List.length_nil, List.replicate_succ, List.replicate_zero, Nat.reduceAdd, Nat.reduceSub]
    refine zz_if_eq (tgt := 25) dX9_taken_16 (by decide) (fun q1 => ?_) (fun q1 => ?_)
    · refine zz_bipush (v := (-2)) (by decide) dX9_taken_25 ?_
      refine zz_ireturn dX9_taken_27 rfl (by first | rfl | decide | assumption) ?_
      refine h2 (fun ⟨j', k, v, w, a1, a2, a3, a4, a5, a6, a7, a8, a9, a10⟩ => hr.f q1 ?_)
      rw [a8]
      exact ⟨nI_le (a := 1) a2 (by omega), nI_le (b := 6) a3 (by decide)⟩
    obtain ⟨z1, z2⟩ := hr.t q1
    obtain ⟨k, hk6, rfl⟩ := nI_of2 (n := 6) (M := 6) rfl (fun q => Int32.not_lt.mpr z1 (Int32.lt_trans q (by decide))) z2
    have hk1 : 1 ≤ k := Nat.le_of_not_lt fun q => by rw [show k = 0 by omega] at z1; exact absurd z1 (by decide)
    have hpw := pow_le6 hnj.2 hk6
    refine zz_iload_n rfl dX9_taken_19 ?_
    refine zz_iload rfl dX9_taken_20 ?_
    try dsimp only [zz_s1, zz_s2, zz_kill, zz_ent, zz_fl, List.set_cons_zero, List.set_cons_succ, List.getElem?_cons_zero, List.getElem?_cons_succ, Option.toList_some, Option.toList_none, List.cons_append, List.nil_append, List.append_nil, List.length_cons, List.length_nil, List.replicate_succ, List.replicate_zero, Nat.reduceAdd, Nat.reduceSub]
    refine zz_icmp_ne (tgt := 28) dX9_taken_22 (by decide) (fun q2 => ?_) (fun q2 => ?_)
    rotate_left
    · refine zz_bipush (v := (-2)) (by decide) dX9_taken_25 ?_
      refine zz_ireturn dX9_taken_27 rfl (by first | rfl | decide | assumption) ?_
      refine h2 (fun ⟨j', k', v, w, a1, a2, a3, a4, a5, a6, a7, a8, a9, a10⟩ => a6 ?_)
      have hp2 := pow_le6 (hn j' a1).2 a3
      exact (nI_eq (by omega) (by omega)).mp (a9.symm.trans (q2.trans a10))
    refine zz_aload rfl dX9_taken_28 ?_
    refine zz_geti dX9_taken_30 fX9_144 rfl (ol_obj hO hj) ?_
    refine zz_iload_n rfl dX9_taken_33 ?_
    try dsimp only [zz_s1, zz_s2, zz_kill, zz_ent, zz_fl, List.set_cons_zero, List.set_cons_succ, List.getElem?_cons_zero, List.getElem?_cons_succ, Option.toList_some, Option.toList_none, List.cons_append, List.nil_append, List.append_nil, List.length_cons, List.length_nil, List.replicate_succ, List.replicate_zero, Nat.reduceAdd, Nat.reduceSub]
    rw [hc.2.1]
    refine zz_cS2 dX9_taken_34 lX9_172 rfl (Nat.le_of_ble_eq_true rfl) (Nat.le_of_ble_eq_true rfl) ?_
    refine sp_wordsInAll (d + 2) hnj.1 hnj.2 hk6 ?_
    try dsimp only [zz_s1, zz_s2, zz_kill, zz_ent, zz_fl, List.set_cons_zero, List.set_cons_succ, List.getElem?_cons_zero, List.getElem?_cons_succ, Option.toList_some, Option.toList_none, List.cons_append, List.nil_append, List.append_nil, List.length_cons, List.length_nil, List.replicate_succ, List.replicate_zero, Nat.reduceAdd, Nat.reduceSub]
    refine zz_istore dX9_taken_37 (by decide) ?_
    refine zz_iload_n rfl dX9_taken_39 ?_
    try dsimp only [zz_s1, zz_s2, zz_kill, zz_ent, zz_fl, List.set_cons_zero, List.set_cons_succ, List.getElem?_cons_zero, List.getElem?_cons_succ, Option.toList_some, Option.toList_none, List.cons_append, List.nil_append, List.append_nil, List.length_cons, List.length_nil, List.replicate_succ, List.replicate_zero, Nat.reduceAdd, Nat.reduceSub]
    have rng : ¬ (vp_in V (n j ^ k) ∧ vp_in W (n j ^ k)) → zz_G mX9_taken (d + 3) 0 61 [some (.ref 1), some (.int l), some (.int (nI k)), some (.int V), some (.int W), some (.ref (LN j)), some (.int (nI (n j ^ k))), none, none, none] [] M I J Q := by
      intro q
      refine zz_bipush (v := (-2)) (by decide) dX9_taken_61 ?_
      refine zz_ireturn dX9_taken_63 rfl (by first | rfl | decide | assumption) ?_
      refine h2 (fun ⟨j', k', v, w, a1, a2, a3, a4, a5, a6, a7, a8, a9, a10⟩ => q ?_)
      have ej : j' = j := (nI_eq (by omega) (by omega)).mp (a7.symm.trans e)
      subst ej
      have ek : k = k' := (nI_eq (by omega) (by omega)).mp a8
      subst ek
      rw [a9, a10]
      exact ⟨vp_in_nI a4 (by omega), vp_in_nI a5 (by omega)⟩
    refine zz_if_lt (tgt := 61) dX9_taken_40 (by decide) (fun q3 => ?_) (fun q3 => ?_)
    · exact rng (fun q => q.1 (Or.inl q3))
    refine zz_iload rfl dX9_taken_43 ?_
    try dsimp only [zz_s1, zz_s2, zz_kill, zz_ent, zz_fl, List.set_cons_zero, List.set_cons_succ, List.getElem?_cons_zero, List.getElem?_cons_succ, Option.toList_some, Option.toList_none, List.cons_append, List.nil_append, List.append_nil, List.length_cons, List.length_nil, List.replicate_succ, List.replicate_zero, Nat.reduceAdd, Nat.reduceSub]
    refine zz_if_lt (tgt := 61) dX9_taken_45 (by decide) (fun q4 => ?_) (fun q4 => ?_)
    · exact rng (fun q => q.2 (Or.inl q4))
    refine zz_iload_n rfl dX9_taken_48 ?_
    refine zz_iload rfl dX9_taken_49 ?_
    try dsimp only [zz_s1, zz_s2, zz_kill, zz_ent, zz_fl, List.set_cons_zero, List.set_cons_succ, List.getElem?_cons_zero, List.getElem?_cons_succ, Option.toList_some, Option.toList_none, List.cons_append, List.nil_append, List.append_nil, List.length_cons, List.length_nil, List.replicate_succ, List.replicate_zero, Nat.reduceAdd, Nat.reduceSub]
    refine zz_icmp_ge (tgt := 61) dX9_taken_51 (by decide) (fun q5 => ?_) (fun q5 => ?_)
    · refine rng (fun q => ?_)
      have := (vp_in_iff.mp q.1).2
      rw [Int32.le_iff_toInt_le, nI_toInt (by omega)] at q5
      omega
    refine zz_iload rfl dX9_taken_54 ?_
    refine zz_iload rfl dX9_taken_56 ?_
    try dsimp only [zz_s1, zz_s2, zz_kill, zz_ent, zz_fl, List.set_cons_zero, List.set_cons_succ, List.getElem?_cons_zero, List.getElem?_cons_succ, Option.toList_some, Option.toList_none, List.cons_append, List.nil_append, List.append_nil, List.length_cons, List.length_nil, List.replicate_succ, List.replicate_zero, Nat.reduceAdd, Nat.reduceSub]
    refine zz_icmp_lt (tgt := 64) dX9_taken_58 (by decide) (fun q6 => ?_) (fun q6 => ?_)
    rotate_left
    · refine rng (fun q => ?_)
      have := (vp_in_iff.mp q.2).2
      rw [Int32.lt_iff_toInt_lt, nI_toInt (by omega)] at q6
      omega
    obtain ⟨v, hv, rfl⟩ := vp_in_of (x := V) (n := n j ^ k) (has_in (by omega) |>.mp ⟨Int32.not_lt.mp q3, Int32.not_le.mp q5⟩) (by omega)
    obtain ⟨w, hw, rfl⟩ := vp_in_of (x := W) (n := n j ^ k) (has_in (by omega) |>.mp ⟨Int32.not_lt.mp q4, q6⟩) (by omega)
    have hvw : v ≠ w := fun q => q2 (by rw [q])
    have h1 := h1 j k v w hj hk1 hk6 hv hw hvw e rfl rfl rfl
    refine zz_iload_n rfl dX9_taken_64 ?_
    refine zz_istore dX9_taken_65 (by decide) ?_
    refine zz_iload rfl dX9_taken_67 ?_
    refine zz_istore dX9_taken_69 (by decide) ?_
    refine zz_iconst (v := 0) (by decide) dX9_taken_71 ?_
    refine zz_istore dX9_taken_72 (by decide) ?_
    try dsimp only [zz_s1, zz_s2, zz_kill, zz_ent, zz_fl, List.set_cons_zero, List.set_cons_succ, List.getElem?_cons_zero, List.getElem?_cons_succ, Option.toList_some, Option.toList_none, List.cons_append, List.nil_append, List.append_nil, List.length_cons, List.length_nil, List.replicate_succ, List.replicate_zero, Nat.reduceAdd, Nat.reduceSub]
    have loop : ∀ (q i x y : Nat), i + q = k → x < 2 ^ 31 → y < 2 ^ 31 → (∀ r : Int32, bo r (tk (n j) (E j) q x y) → Q (some (.int r)) M I J) → zz_G mX9_taken (d + 3) 0 74 [some (.ref 1), some (.int l), some (.int (nI k)), some (.int (nI v)), some (.int (nI w)), some (.ref (LN j)), some (.int (nI (n j ^ k))), some (.int (nI x)), some (.int (nI y)), some (.int (nI i))] [] M I J Q := by
      intro q
      induction q with
      | zero =>
        intro i x y hi hx hy hq
        have e : i = k := by omega
        subst e
        refine zz_iload rfl dX9_taken_74 ?_
        refine zz_iload_n rfl dX9_taken_76 ?_
        try dsimp only [zz_s1, zz_s2, zz_kill, zz_ent, zz_fl, List.set_cons_zero, List.set_cons_succ, List.getElem?_cons_zero, List.getElem?_cons_succ, Option.toList_some, Option.toList_none, List.cons_append, List.nil_append, List.append_nil, List.length_cons, List.length_nil, List.replicate_succ, List.replicate_zero, Nat.reduceAdd, Nat.reduceSub]
        refine zz_icmp_ge (tgt := 140) dX9_taken_77 (by decide) (fun h => ?_) (fun h => ?_)
        · refine zz_iconst (v := 1) (by decide) dX9_taken_140 ?_
          refine zz_ireturn dX9_taken_141 rfl (by first | rfl | decide | assumption) ?_
          exact hq 1 (bo.one trivial)
        · exact absurd (nI_le (Nat.le_refl i) (by omega)) h
      | succ q ih =>
        intro i x y hi hx hy hq
        have hxm : x % n j < 24 := Nat.lt_of_lt_of_le (Nat.mod_lt _ (by omega)) hnj.2
        have hym : y % n j < 24 := Nat.lt_of_lt_of_le (Nat.mod_lt _ (by omega)) hnj.2
        refine zz_iload rfl dX9_taken_74 ?_
        refine zz_iload_n rfl dX9_taken_76 ?_
        try dsimp only [zz_s1, zz_s2, zz_kill, zz_ent, zz_fl, List.set_cons_zero, List.set_cons_succ, List.getElem?_cons_zero, List.getElem?_cons_succ, Option.toList_some, Option.toList_none, List.cons_append, List.nil_append, List.append_nil, List.length_cons, List.length_nil, List.replicate_succ, List.replicate_zero, Nat.reduceAdd, Nat.reduceSub]
        refine zz_icmp_ge (tgt := 140) dX9_taken_77 (by decide) (fun h => ?_) (fun h => ?_)
        · exact absurd h (nI_ge (by omega) (by omega))
        · skip
          refine zz_aload rfl dX9_taken_80 ?_
          refine zz_iload rfl dX9_taken_82 ?_
          refine zz_aload rfl dX9_taken_84 ?_
          refine zz_geti dX9_taken_86 fX9_144 rfl (ol_obj hO hj) ?_
          try dsimp only [zz_s1, zz_s2, zz_kill, zz_ent, zz_fl, List.set_cons_zero, List.set_cons_succ, List.getElem?_cons_zero, List.getElem?_cons_succ, Option.toList_some, Option.toList_none, List.cons_append, List.nil_append, List.append_nil, List.length_cons, List.length_nil, List.replicate_succ, List.replicate_zero, Nat.reduceAdd, Nat.reduceSub]
          rw [hc.2.1]
          refine zz_cS2 dX9_taken_89 lX9_176 rfl (Nat.le_of_ble_eq_true rfl) (Nat.le_of_ble_eq_true rfl) ?_
          refine sp_remainder (d + 2) hx (by omega) (by omega) ?_
          try dsimp only [zz_s1, zz_s2, zz_kill, zz_ent, zz_fl, List.set_cons_zero, List.set_cons_succ, List.getElem?_cons_zero, List.getElem?_cons_succ, Option.toList_some, Option.toList_none, List.cons_append, List.nil_append, List.append_nil, List.length_cons, List.length_nil, List.replicate_succ, List.replicate_zero, Nat.reduceAdd, Nat.reduceSub]
          refine zz_iload rfl dX9_taken_92 ?_
          refine zz_aload rfl dX9_taken_94 ?_
          refine zz_geti dX9_taken_96 fX9_144 rfl (ol_obj hO hj) ?_
          try dsimp only [zz_s1, zz_s2, zz_kill, zz_ent, zz_fl, List.set_cons_zero, List.set_cons_succ, List.getElem?_cons_zero, List.getElem?_cons_succ, Option.toList_some, Option.toList_none, List.cons_append, List.nil_append, List.append_nil, List.length_cons, List.length_nil, List.replicate_succ, List.replicate_zero, Nat.reduceAdd, Nat.reduceSub]
          rw [hc.2.1]
          refine zz_cS2 dX9_taken_99 lX9_176 rfl (Nat.le_of_ble_eq_true rfl) (Nat.le_of_ble_eq_true rfl) ?_
          refine sp_remainder (d + 2) hy (by omega) (by omega) ?_
          try dsimp only [zz_s1, zz_s2, zz_kill, zz_ent, zz_fl, List.set_cons_zero, List.set_cons_succ, List.getElem?_cons_zero, List.getElem?_cons_succ, Option.toList_some, Option.toList_none, List.cons_append, List.nil_append, List.append_nil, List.length_cons, List.length_nil, List.replicate_succ, List.replicate_zero, Nat.reduceAdd, Nat.reduceSub]
          refine zz_cV2 dX9_taken_102 lX9_179 rfl (ol_obj hO hj) rfl rfl (Nat.le_of_ble_eq_true rfl) (Nat.le_of_ble_eq_true rfl) ?_
          refine sp_X3_alike (d + 1) hO hj (vp_in_nI hxm (by decide)) (fun r hr => ?_)
          try dsimp only [zz_s1, zz_s2, zz_kill, zz_ent, zz_fl, List.set_cons_zero, List.set_cons_succ, List.getElem?_cons_zero, List.getElem?_cons_succ, Option.toList_some, Option.toList_none, List.cons_append, List.nil_append, List.append_nil, List.length_cons, List.length_nil, List.replicate_succ, List.replicate_zero, Nat.reduceAdd, Nat.reduceSub]
          have hr : bo r (lk (E j) (x % n j) (y % n j)) := bo.iff hr (by
            rw [nI_clamp (by omega), nI_eq (by omega) (by omega), bt1_iff _ (by omega), hc.2.2.2.1 _ hxm _ (by omega)]
            exact Iff.rfl)
          refine zz_if_ne (tgt := 110) dX9_taken_105 (by decide) (fun h2 => ?_) (fun h2 => ?_)
          · refine zz_iload rfl dX9_taken_110 ?_
            refine zz_aload rfl dX9_taken_112 ?_
            refine zz_geti dX9_taken_114 fX9_144 rfl (ol_obj hO hj) ?_
            try dsimp only [zz_s1, zz_s2, zz_kill, zz_ent, zz_fl, List.set_cons_zero, List.set_cons_succ, List.getElem?_cons_zero, List.getElem?_cons_succ, Option.toList_some, Option.toList_none, List.cons_append, List.nil_append, List.append_nil, List.length_cons, List.length_nil, List.replicate_succ, List.replicate_zero, Nat.reduceAdd, Nat.reduceSub]
            rw [hc.2.1]
            refine zz_cS2 dX9_taken_117 lX9_182 rfl (Nat.le_of_ble_eq_true rfl) (Nat.le_of_ble_eq_true rfl) ?_
            refine sp_quotient (d + 2) hx (by omega) (by omega) ?_
            try dsimp only [zz_s1, zz_s2, zz_kill, zz_ent, zz_fl, List.set_cons_zero, List.set_cons_succ, List.getElem?_cons_zero, List.getElem?_cons_succ, Option.toList_some, Option.toList_none, List.cons_append, List.nil_append, List.append_nil, List.length_cons, List.length_nil, List.replicate_succ, List.replicate_zero, Nat.reduceAdd, Nat.reduceSub]
            refine zz_istore dX9_taken_120 (by decide) ?_
            refine zz_iload rfl dX9_taken_122 ?_
            refine zz_aload rfl dX9_taken_124 ?_
            refine zz_geti dX9_taken_126 fX9_144 rfl (ol_obj hO hj) ?_
            try dsimp only [zz_s1, zz_s2, zz_kill, zz_ent, zz_fl, List.set_cons_zero, List.set_cons_succ, List.getElem?_cons_zero, List.getElem?_cons_succ, Option.toList_some, Option.toList_none, List.cons_append, List.nil_append, List.append_nil, List.length_cons, List.length_nil, List.replicate_succ, List.replicate_zero, Nat.reduceAdd, Nat.reduceSub]
            rw [hc.2.1]
            refine zz_cS2 dX9_taken_129 lX9_182 rfl (Nat.le_of_ble_eq_true rfl) (Nat.le_of_ble_eq_true rfl) ?_
            refine sp_quotient (d + 2) hy (by omega) (by omega) ?_
            try dsimp only [zz_s1, zz_s2, zz_kill, zz_ent, zz_fl, List.set_cons_zero, List.set_cons_succ, List.getElem?_cons_zero, List.getElem?_cons_succ, Option.toList_some, Option.toList_none, List.cons_append, List.nil_append, List.append_nil, List.length_cons, List.length_nil, List.replicate_succ, List.replicate_zero, Nat.reduceAdd, Nat.reduceSub]
            refine zz_istore dX9_taken_132 (by decide) ?_
            refine zz_iinc dX9_taken_134 rfl (congrArg (HAdd.hAdd _) (show Int32.ofInt 1 = 1 by decide)) (by decide) ?_
            refine zz_goto (tgt := 74) dX9_taken_137 (by decide) ?_
            try dsimp only [zz_s1, zz_s2, zz_kill, zz_ent, zz_fl, List.set_cons_zero, List.set_cons_succ, List.getElem?_cons_zero, List.getElem?_cons_succ, Option.toList_some, Option.toList_none, List.cons_append, List.nil_append, List.append_nil, List.length_cons, List.length_nil, List.replicate_succ, List.replicate_zero, Nat.reduceAdd, Nat.reduceSub]
            rw [nI_1]
            exact ih (i + 1) (x / n j) (y / n j) (by omega) (Nat.lt_of_le_of_lt (Nat.div_le_self _ _) hx) (Nat.lt_of_le_of_lt (Nat.div_le_self _ _) hy) (fun r2 hr3 => hq r2 (hr3.iff ⟨fun z => ⟨hr.t h2, z⟩, fun z => z.2⟩))
          · skip
            refine zz_iconst (v := 0) (by decide) dX9_taken_108 ?_
            refine zz_ireturn dX9_taken_109 rfl (by first | rfl | decide | assumption) ?_
            exact hq 0 (bo.zero fun z => hr.f h2 z.1)
    exact loop k 0 v w (by omega) (by omega) (by omega) h1
  · try dsimp only [zz_s1, zz_s2, zz_kill, zz_ent, zz_fl, List.set_cons_zero, List.set_cons_succ, List.getElem?_cons_zero, List.getElem?_cons_succ, Option.toList_some, Option.toList_none, List.cons_append, List.nil_append, List.append_nil, List.length_cons, List.length_nil, List.replicate_succ, List.replicate_zero, Nat.reduceAdd, Nat.reduceSub]
    refine zz_nstore dX9_taken_5 (by decide) ?_
    refine zz_nload rfl dX9_taken_7 ?_
    try dsimp only [zz_s1, zz_s2, zz_kill, zz_ent, zz_fl, List.set_cons_zero, List.set_cons_succ, List.getElem?_cons_zero, List.getElem?_cons_succ, Option.toList_some, Option.toList_none, List.cons_append, List.nil_append, List.append_nil, List.length_cons, List.length_nil, List.replicate_succ, List.replicate_zero, Nat.reduceAdd, Nat.reduceSub]
    refine zz_ifnullN (tgt := 25) dX9_taken_9 (by decide) ?_
    refine zz_bipush (v := (-2)) (by decide) dX9_taken_25 ?_
    refine zz_ireturn dX9_taken_27 rfl (by first | rfl | decide | assumption) ?_
    exact h2 (fun ⟨j', k, v, w, a1, a2, a3, a4, a5, a6, a7, a8, a9, a10⟩ => hv (by rw [a7]; exact vp_in_nI a1 (by decide)))
theorem sp_X10_taken (d : Nat) (hO : OK M) {l K V W : Int32} (hn : ∀ j, j < 8 → 1 ≤ n j ∧ n j ≤ 24) (hC : ∀ j, j < 8 → ML I j (n j) (kd j) (ag j) (E j) (sg j) (rw j))
    (h1 : ∀ j k v w, j < 8 → 1 ≤ k → k ≤ 6 → v < n j ^ k → w < n j ^ k → v ≠ w → l = nI j → K = nI k → V = nI v → W = nI w → ∀ r : Int32, bo r (tk (n j) (E j) k v w) → Q (some (.int r)) M I J)
    (h2 : ¬ (∃ j k v w, j < 8 ∧ 1 ≤ k ∧ k ≤ 6 ∧ v < n j ^ k ∧ w < n j ^ k ∧ v ≠ w ∧ l = nI j ∧ K = nI k ∧ V = nI v ∧ W = nI w) → Q (some (.int (-2))) M I J) : zz_D mX10_taken (d + 3) [.ref 259, .int l, .int K, .int V, .int W] M I J Q := by
  refine zz_D_of rfl (Nat.le_of_ble_eq_true rfl) ?_
  try dsimp only [zz_s1, zz_s2, zz_kill, zz_ent, zz_fl, List.set_cons_zero, List.set_cons_succ, List.getElem?_cons_zero, List.getElem?_cons_succ, Option.toList_some, Option.toList_none, List.cons_append, List.nil_append, List.append_nil, List.length_cons, List.length_nil, List.replicate_succ, List.replicate_zero, Nat.reduceAdd, Nat.reduceSub]
  refine zz_iload_n rfl dX10_taken_0 ?_
  try dsimp only [zz_s1, zz_s2, zz_kill, zz_ent, zz_fl, List.set_cons_zero, List.set_cons_succ, List.getElem?_cons_zero, List.getElem?_cons_succ, Option.toList_some, Option.toList_none, List.cons_append, List.nil_append, List.append_nil, List.length_cons, List.length_nil, List.replicate_succ, List.replicate_zero, Nat.reduceAdd, Nat.reduceSub]
  refine zz_cS1 dX10_taken_1 lX10_85 rfl (Nat.le_of_ble_eq_true rfl) (Nat.le_of_ble_eq_true rfl) ?_
  refine sp_isLine (d + 1) (fun r0 hr0 => ?_)
  try dsimp only [zz_s1, zz_s2, zz_kill, zz_ent, zz_fl, List.set_cons_zero, List.set_cons_succ, List.getElem?_cons_zero, List.getElem?_cons_succ, Option.toList_some, Option.toList_none, List.cons_append, List.nil_append, List.append_nil, List.length_cons, List.length_nil, List.replicate_succ, List.replicate_zero, Nat.reduceAdd, Nat.reduceSub]
  refine zz_if_eq (tgt := 25) dX10_taken_4 (by decide) (fun q0 => ?_) (fun q0 => ?_)
  · refine zz_bipush (v := (-2)) (by decide) dX10_taken_25 ?_
    refine zz_ireturn dX10_taken_27 rfl (by first | rfl | decide | assumption) ?_
    refine h2 (fun ⟨j', k, v, w, a1, a2, a3, a4, a5, a6, a7, a8, a9, a10⟩ => hr0.f q0 (by rw [a7]; exact vp_in_nI a1 (by decide)))
  obtain ⟨j, hj, rfl⟩ := vp_in_of (hr0.t q0) (by decide)
  have hc := hC j hj
  have hnj := hn j hj
  refine zz_iload_n rfl dX10_taken_7 ?_
  refine zz_i2l dX10_taken_8 ?_
  refine zz_lconst (v := 1) (by decide) dX10_taken_9 ?_
  refine zz_ldc2 tX10_143 dX10_taken_10 ?_
  try dsimp only [zz_s1, zz_s2, zz_kill, zz_ent, zz_fl, List.set_cons_zero, List.set_cons_succ, List.getElem?_cons_zero, List.getElem?_cons_succ, Option.toList_some, Option.toList_none, List.cons_append, List.nil_append, List.append_nil, List.length_cons, List.length_nil, List.replicate_succ, List.replicate_zero, Nat.reduceAdd, Nat.reduceSub]
  refine zz_cS3 dX10_taken_13 lX10_81 rfl (Nat.le_of_ble_eq_true rfl) (Nat.le_of_ble_eq_true rfl) ?_
  refine sp_in (d + 2) (fun r hr => ?_)
  try dsimp only [zz_s1, zz_s2, zz_kill, zz_ent, zz_fl, List.set_cons_zero, List.set_cons_succ, List.getElem?_cons_zero, List.getElem?_cons_succ, Option.toList_some, Option.toList_none, List.cons_append, List.nil_append, List.append_nil, List.length_cons, List.length_nil, List.replicate_succ, List.replicate_zero, Nat.reduceAdd, Nat.reduceSub]
  have hr : bo r (1 ≤ K ∧ K ≤ 6) := hr.iff (by
    rw [Int64.le_iff_toInt_le, Int64.le_iff_toInt_le, i2l_int, Int32.le_iff_toInt_le, Int32.le_iff_toInt_le]
    exact Iff.rfl)
  refine zz_if_eq (tgt := 25) dX10_taken_16 (by decide) (fun q1 => ?_) (fun q1 => ?_)
  · refine zz_bipush (v := (-2)) (by decide) dX10_taken_25 ?_
    refine zz_ireturn dX10_taken_27 rfl (by first | rfl | decide | assumption) ?_
    refine h2 (fun ⟨j', k, v, w, a1, a2, a3, a4, a5, a6, a7, a8, a9, a10⟩ => hr.f q1 ?_)
    rw [a8]
    exact ⟨nI_le (a := 1) a2 (by omega), nI_le (b := 6) a3 (by decide)⟩
  obtain ⟨z1, z2⟩ := hr.t q1
  obtain ⟨k, hk6, rfl⟩ := nI_of2 (n := 6) (M := 6) rfl (fun q => Int32.not_lt.mpr z1 (Int32.lt_trans q (by decide))) z2
  have hk1 : 1 ≤ k := Nat.le_of_not_lt fun q => by rw [show k = 0 by omega] at z1; exact absurd z1 (by decide)
  have hpw := pow_le6 hnj.2 hk6
  refine zz_iload_n rfl dX10_taken_19 ?_
  refine zz_iload rfl dX10_taken_20 ?_
  try dsimp only [zz_s1, zz_s2, zz_kill, zz_ent, zz_fl, List.set_cons_zero, List.set_cons_succ, List.getElem?_cons_zero, List.getElem?_cons_succ, Option.toList_some, Option.toList_none, List.cons_append, List.nil_append, List.append_nil, List.length_cons, List.length_nil, List.replicate_succ, List.replicate_zero, Nat.reduceAdd, Nat.reduceSub]
  refine zz_icmp_ne (tgt := 28) dX10_taken_22 (by decide) (fun q2 => ?_) (fun q2 => ?_)
  rotate_left
  · refine zz_bipush (v := (-2)) (by decide) dX10_taken_25 ?_
    refine zz_ireturn dX10_taken_27 rfl (by first | rfl | decide | assumption) ?_
    refine h2 (fun ⟨j', k', v, w, a1, a2, a3, a4, a5, a6, a7, a8, a9, a10⟩ => a6 ?_)
    have hp2 := pow_le6 (hn j' a1).2 a3
    exact (nI_eq (by omega) (by omega)).mp (a9.symm.trans (q2.trans a10))
  refine zz_aload_n rfl dX10_taken_28 ?_
  refine zz_getr dX10_taken_29 fX10_9 (fun _ _ _ _ => rfl) (os_259 hO) (or_259_0 hO) ?_
  refine zz_iload_n rfl dX10_taken_32 ?_
  refine zz_iald dX10_taken_33 (os_260 hO) (vp_in_nI hj (by decide)) ?_
  refine zz_iload_n rfl dX10_taken_34 ?_
  try dsimp only [zz_s1, zz_s2, zz_kill, zz_ent, zz_fl, List.set_cons_zero, List.set_cons_succ, List.getElem?_cons_zero, List.getElem?_cons_succ, Option.toList_some, Option.toList_none, List.cons_append, List.nil_append, List.append_nil, List.length_cons, List.length_nil, List.replicate_succ, List.replicate_zero, Nat.reduceAdd, Nat.reduceSub]
  rw [nI_clamp (by omega), hc.2.1]
  refine zz_cS2 dX10_taken_35 lX10_145 rfl (Nat.le_of_ble_eq_true rfl) (Nat.le_of_ble_eq_true rfl) ?_
  refine sp_power (d + 2) (by omega) (by omega) ?_
  try dsimp only [zz_s1, zz_s2, zz_kill, zz_ent, zz_fl, List.set_cons_zero, List.set_cons_succ, List.getElem?_cons_zero, List.getElem?_cons_succ, Option.toList_some, Option.toList_none, List.cons_append, List.nil_append, List.append_nil, List.length_cons, List.length_nil, List.replicate_succ, List.replicate_zero, Nat.reduceAdd, Nat.reduceSub]
  refine zz_istore dX10_taken_38 (by decide) ?_
  refine zz_iload_n rfl dX10_taken_40 ?_
  refine zz_i2l dX10_taken_41 ?_
  refine zz_lconst (v := 0) (by decide) dX10_taken_42 ?_
  refine zz_iload rfl dX10_taken_43 ?_
  refine zz_i2l dX10_taken_45 ?_
  refine zz_lconst (v := 1) (by decide) dX10_taken_46 ?_
  refine zz_lsub dX10_taken_47 ?_
  try dsimp only [zz_s1, zz_s2, zz_kill, zz_ent, zz_fl, List.set_cons_zero, List.set_cons_succ, List.getElem?_cons_zero, List.getElem?_cons_succ, Option.toList_some, Option.toList_none, List.cons_append, List.nil_append, List.append_nil, List.length_cons, List.length_nil, List.replicate_succ, List.replicate_zero, Nat.reduceAdd, Nat.reduceSub]
  have rng : ¬ (vp_in V (n j ^ k) ∧ vp_in W (n j ^ k)) → zz_G mX10_taken (d + 3) 0 69 [some (.ref 259), some (.int (nI j)), some (.int (nI k)), some (.int V), some (.int W), some (.int (nI (n j ^ k)))] [] M I J Q := by
    intro q
    refine zz_bipush (v := (-2)) (by decide) dX10_taken_69 ?_
    refine zz_goto (tgt := 91) dX10_taken_71 (by decide) ?_
    refine zz_ireturn dX10_taken_91 rfl (by first | rfl | decide | assumption) ?_
    refine h2 (fun ⟨j', k', v, w, a1, a2, a3, a4, a5, a6, a7, a8, a9, a10⟩ => q ?_)
    have ej : j = j' := (nI_eq (by omega) (by omega)).mp a7
    subst ej
    have ek : k = k' := (nI_eq (by omega) (by omega)).mp a8
    subst ek
    rw [a9, a10]
    exact ⟨vp_in_nI a4 (by omega), vp_in_nI a5 (by omega)⟩
  refine zz_cS3 dX10_taken_48 lX10_81 rfl (Nat.le_of_ble_eq_true rfl) (Nat.le_of_ble_eq_true rfl) ?_
  refine sp_in (d + 2) (fun r3 hr3 => ?_)
  try dsimp only [zz_s1, zz_s2, zz_kill, zz_ent, zz_fl, List.set_cons_zero, List.set_cons_succ, List.getElem?_cons_zero, List.getElem?_cons_succ, Option.toList_some, Option.toList_none, List.cons_append, List.nil_append, List.append_nil, List.length_cons, List.length_nil, List.replicate_succ, List.replicate_zero, Nat.reduceAdd, Nat.reduceSub]
  have hr3 : bo r3 (vp_in V (n j ^ k)) := hr3.iff (in_k (by omega))
  refine zz_if_eq (tgt := 69) dX10_taken_51 (by decide) (fun q3 => ?_) (fun q3 => ?_)
  · exact rng (fun q => hr3.f q3 q.1)
  refine zz_iload rfl dX10_taken_54 ?_
  refine zz_i2l dX10_taken_56 ?_
  refine zz_lconst (v := 0) (by decide) dX10_taken_57 ?_
  refine zz_iload rfl dX10_taken_58 ?_
  refine zz_i2l dX10_taken_60 ?_
  refine zz_lconst (v := 1) (by decide) dX10_taken_61 ?_
  refine zz_lsub dX10_taken_62 ?_
  try dsimp only [zz_s1, zz_s2, zz_kill, zz_ent, zz_fl, List.set_cons_zero, List.set_cons_succ, List.getElem?_cons_zero, List.getElem?_cons_succ, Option.toList_some, Option.toList_none, List.cons_append, List.nil_append, List.append_nil, List.length_cons, List.length_nil, List.replicate_succ, List.replicate_zero, Nat.reduceAdd, Nat.reduceSub]
  refine zz_cS3 dX10_taken_63 lX10_81 rfl (Nat.le_of_ble_eq_true rfl) (Nat.le_of_ble_eq_true rfl) ?_
  refine sp_in (d + 2) (fun r4 hr4 => ?_)
  try dsimp only [zz_s1, zz_s2, zz_kill, zz_ent, zz_fl, List.set_cons_zero, List.set_cons_succ, List.getElem?_cons_zero, List.getElem?_cons_succ, Option.toList_some, Option.toList_none, List.cons_append, List.nil_append, List.append_nil, List.length_cons, List.length_nil, List.replicate_succ, List.replicate_zero, Nat.reduceAdd, Nat.reduceSub]
  have hr4 : bo r4 (vp_in W (n j ^ k)) := hr4.iff (in_k (by omega))
  refine zz_if_ne (tgt := 74) dX10_taken_66 (by decide) (fun q4 => ?_) (fun q4 => ?_)
  rotate_left
  · exact rng (fun q => hr4.f q4 q.2)
  obtain ⟨v, hv, rfl⟩ := vp_in_of (hr3.t q3) (by omega)
  obtain ⟨w, hw, rfl⟩ := vp_in_of (hr4.t q4) (by omega)
  have hvw : v ≠ w := fun q => q2 (by rw [q])
  have h1 := h1 j k v w hj hk1 hk6 hv hw hvw rfl rfl rfl rfl
  refine zz_aload_n rfl dX10_taken_74 ?_
  refine zz_iload_n rfl dX10_taken_75 ?_
  refine zz_iload_n rfl dX10_taken_76 ?_
  refine zz_iload_n rfl dX10_taken_77 ?_
  refine zz_iload rfl dX10_taken_78 ?_
  try dsimp only [zz_s1, zz_s2, zz_kill, zz_ent, zz_fl, List.set_cons_zero, List.set_cons_succ, List.getElem?_cons_zero, List.getElem?_cons_succ, Option.toList_some, Option.toList_none, List.cons_append, List.nil_append, List.append_nil, List.length_cons, List.length_nil, List.replicate_succ, List.replicate_zero, Nat.reduceAdd, Nat.reduceSub]
  refine zz_cV4 dX10_taken_80 lX10_148 rfl (os_259 hO) rfl rfl (Nat.le_of_ble_eq_true rfl) (Nat.le_of_ble_eq_true rfl) ?_
  refine sp_areTaken d hO hj hnj.1 hnj.2 hc.2.1 hc.2.2.2.1 (by omega) (by omega) (by omega) (fun r5 hr5 => ?_)
  try dsimp only [zz_s1, zz_s2, zz_kill, zz_ent, zz_fl, List.set_cons_zero, List.set_cons_succ, List.getElem?_cons_zero, List.getElem?_cons_succ, Option.toList_some, Option.toList_none, List.cons_append, List.nil_append, List.append_nil, List.length_cons, List.length_nil, List.replicate_succ, List.replicate_zero, Nat.reduceAdd, Nat.reduceSub]
  refine zz_if_eq (tgt := 90) dX10_taken_83 (by decide) (fun q5 => ?_) (fun q5 => ?_)
  · refine zz_iconst (v := 0) (by decide) dX10_taken_90 ?_
    refine zz_ireturn dX10_taken_91 rfl (by first | rfl | decide | assumption) ?_
    exact h1 0 (bo.zero (hr5.f q5))
  · skip
    refine zz_iconst (v := 1) (by decide) dX10_taken_86 ?_
    refine zz_goto (tgt := 91) dX10_taken_87 (by decide) ?_
    refine zz_ireturn dX10_taken_91 rfl (by first | rfl | decide | assumption) ?_
    exact h1 1 (bo.one (hr5.t q5))
end PTaken

