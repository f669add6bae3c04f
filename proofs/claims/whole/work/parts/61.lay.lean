/-! ===== the words' table ===== -/
def lkB (E : Nat → Nat → Bool) (a b : Nat) : Bool := decide (a = b) || E a b
theorem lkB_iff {E : Nat → Nat → Bool} {a b : Nat} : lkB E a b = true ↔ lk E a b := by unfold lkB lk; rw [Bool.or_eq_true, decide_eq_true_eq]
/-- words of k letters, one taken for the other or the same -/
def tkB (n : Nat) (E : Nat → Nat → Bool) : Nat → Nat → Nat → Bool
  | 0, _, _ => true
  | k + 1, v, w => lkB E (v % n) (w % n) && tkB n E k (v / n) (w / n)
theorem tkB_s (n : Nat) (E : Nat → Nat → Bool) (k v w : Nat) : tkB n E (k + 1) v w = (lkB E (v % n) (w % n) && tkB n E k (v / n) (w / n)) := rfl
theorem tkB_iff {n : Nat} {E : Nat → Nat → Bool} : ∀ {k v w : Nat}, tkB n E k v w = true ↔ tk n E k v w
  | 0, v, w => ⟨fun _ => trivial, fun _ => rfl⟩
  | k + 1, v, w => by rw [tkB_s, Bool.and_eq_true, lkB_iff, tkB_iff]; exact Iff.rfl
theorem tkB_rf {n : Nat} {E : Nat → Nat → Bool} : ∀ (k v : Nat), tkB n E k v v = true
  | 0, v => rfl
  | k + 1, v => by rw [tkB_s, tkB_rf k]; simp [lkB]
theorem lkB_sy {n : Nat} {E : Nat → Nat → Bool} (h : wfE n E) (a b : Nat) : lkB E a b = lkB E b a := by
  have h2 : ∀ a b, lkB E a b = true → lkB E b a = true := fun a b q => by
    rw [lkB_iff] at *
    exact q.imp (fun z => z.symm) (fun z => (h a b z).2.2.2)
  rw [Bool.eq_iff_iff]
  exact ⟨h2 a b, h2 b a⟩
theorem tkB_sy {n m : Nat} {E : Nat → Nat → Bool} (h : wfE m E) : ∀ (k v w : Nat), tkB n E k v w = tkB n E k w v
  | 0, v, w => rfl
  | k + 1, v, w => by rw [tkB_s, tkB_s, lkB_sy h, tkB_sy h k]
theorem tkB_top {n : Nat} {E : Nat → Nat → Bool} (hn : 0 < n) {a b : Nat} (ha : a < n) (hb : b < n) : ∀ (i v w : Nat), v < n ^ i → w < n ^ i → tkB n E (i + 1) (a * n ^ i + v) (b * n ^ i + w) = (lkB E a b && tkB n E i v w)
  | 0, v, w, hv, hw => by
    rw [Nat.pow_zero] at hv hw
    have e1 : v = 0 := by omega
    have e2 : w = 0 := by omega
    subst e1 e2
    rw [tkB_s, Nat.pow_zero, Nat.mul_one, Nat.mul_one, Nat.add_zero, Nat.add_zero, Nat.mod_eq_of_lt ha, Nat.mod_eq_of_lt hb]
    rfl
  | i + 1, v, w, hv, hw => by
    have m1 : ∀ x y, (x * n ^ (i + 1) + y) % n = y % n := fun x y => by rw [Nat.pow_succ, ← Nat.mul_assoc, Nat.add_comm, Nat.add_mul_mod_self_right]
    have d1' : ∀ x y, (x * n ^ (i + 1) + y) / n = x * n ^ i + y / n := fun x y => by rw [Nat.pow_succ, ← Nat.mul_assoc, Nat.add_comm, Nat.add_mul_div_right _ _ hn, Nat.add_comm]
    have dv : ∀ y, y < n ^ (i + 1) → y / n < n ^ i := fun y hy => by
      rw [Nat.div_lt_iff_lt_mul hn, ← Nat.pow_succ]; exact hy
    rw [tkB_s, m1, m1, d1', d1', tkB_top hn ha hb i _ _ (dv v hv) (dv w hw), tkB_s]
    cases lkB E a b <;> cases lkB E (v % n) (w % n) <;> rfl
/-- the class's table, with nothing beyond -/
def NBs (J : zz_J) (W : Nat) (N : Nat → Nat → Bool) : Prop := ∀ v, v < W → ∀ w, bl (J 9 v) w = (decide (w < W) && N v w)
theorem NBs.nb {J : zz_J} {W : Nat} {N : Nat → Nat → Bool} (h : NBs J W N) : NB J W N := fun v hv w hw => by rw [h v hv w]; simp [hw]
theorem bl_shl (x : Int64) {k : Nat} (hk : k < 64) {i : Nat} (hi : i < 64) : bl (jv_lshl x (nI k)) i = (decide (k ≤ i) && bl x (i - k)) := by
  obtain ⟨n, hn, rfl⟩ := wb_of x
  rw [lsh_nI hk, bl_lN, bl_lN, Nat.testBit_mul_two_pow]
  by_cases h : k ≤ i
  · simp [hi, h, show i - k < 64 by omega]
  · simp [h]
/-- the bits laid of a word: those below m -/
def tbb (E N : Nat → Nat → Bool) (W m a v i : Nat) : Bool := decide (i < m) && (lkB E a (i / W) && N v (i % W))
theorem dvW {W b i : Nat} (h1 : b * W ≤ i) (h2 : i < (b + 1) * W) : i / W = b ∧ i % W = i - b * W := by
  have h : i / W = b := Nat.div_eq_of_lt_le h1 h2
  refine ⟨h, ?_⟩
  have := Nat.div_add_mod i W
  rw [h, Nat.mul_comm] at this
  omega
theorem tbb_y {E N : Nat → Nat → Bool} {W b a v : Nat} {set x : Int64} (hbW : (b + 1) * W ≤ 64) (hW : 1 ≤ W) (hs : ∀ i, i < 64 → bl set i = tbb E N W (b * W) a v i) (hx : ∀ w, bl x w = (decide (w < W) && N v w)) (hl : lkB E a b = true) : ∀ i, i < 64 → bl (set ||| jv_lshl x (nI (b * W))) i = tbb E N W ((b + 1) * W) a v i := by
  intro i hi
  have e0 : (b + 1) * W = b * W + W := by rw [Nat.add_mul, Nat.one_mul]
  rw [bl_or, hs i hi, bl_shl x (by omega) hi, hx]
  unfold tbb
  by_cases h1 : i < b * W
  · simp [h1, show ¬ b * W ≤ i by omega, show i < (b + 1) * W by omega]
  · by_cases h2 : i < (b + 1) * W
    · obtain ⟨q1, q2⟩ := dvW (by omega) h2
      simp [h1, h2, show b * W ≤ i by omega, show i - b * W < W by omega, q1, q2, hl]
    · simp [h1, h2, show ¬ i - b * W < W by omega]
theorem tbb_n {E N : Nat → Nat → Bool} {W b a v : Nat} {set : Int64} (hs : ∀ i, i < 64 → bl set i = tbb E N W (b * W) a v i) (hl : lkB E a b = false) : ∀ i, i < 64 → bl set i = tbb E N W ((b + 1) * W) a v i := by
  intro i hi
  have e0 : (b + 1) * W = b * W + W := by rw [Nat.add_mul, Nat.one_mul]
  rw [hs i hi]
  unfold tbb
  by_cases h1 : i < b * W
  · simp [h1, show i < (b + 1) * W by omega]
  · by_cases h2 : i < (b + 1) * W
    · obtain ⟨q1, q2⟩ := dvW (by omega) h2
      simp [h1, h2, q1, hl]
    · simp [h1, h2]
section PLay
variable {M : zz_M} {I : zz_I} {J : zz_J} {Q : zz_Q} {W : Nat} {N : Nat → Nat → Bool}
theorem sp_lengthen (d : Nat) (hO : OK M) {l n : Nat} {kd ag : Int32} {E : Nat → Nat → Bool} {sg : Nat → Int32} {rw : Nat → Nat → Int32} (hl : l < 8) (hn1 : 1 ≤ n) (hn : n ≤ 24) (hc : CL I l n kd ag E sg rw) (hW1 : 1 ≤ W) (hWn : n * W ≤ 64) (h1 : I 8 1 = nI W) (hN : NBs J W N) (hQ : ∀ J' : zz_J, (∀ a, a ≠ 9 → J' a = J a) → NBs J' (n * W) (fun x y => lkB E (x / W) (y / W) && N (x % W) (y % W)) → Q none M (zz_ui I 8 1 (nI (n * W))) J') : zz_D mX1_lengthen (d + 2) [.ref 8, .ref (LN l)] M I J Q := by
  have hW64 : W ≤ 64 := by
    have := Nat.mul_le_mul_right W hn1
    omega
  refine zz_D_of rfl (Nat.le_of_ble_eq_true rfl) ?_
  try dsimp only [zz_s1, zz_s2, zz_kill, zz_ent, zz_fl, List.set_cons_zero, List.set_cons_succ, List.getElem?_cons_zero, List.getElem?_cons_succ, Option.toList_some, Option.toList_none, List.cons_append, List.nil_append, List.append_nil, List.length_cons, List.length_nil, List.replicate_succ, List.replicate_zero, Nat.reduceAdd, Nat.reduceSub]
  refine zz_aload_n rfl dX1_lengthen_0 ?_
  refine zz_geti dX1_lengthen_1 fX1_15 rfl (os_8 hO) ?_
  refine zz_istore_n dX1_lengthen_4 (by decide) ?_
  refine zz_aload_n rfl dX1_lengthen_5 ?_
  refine zz_geti dX1_lengthen_6 fX1_43 rfl (ol_obj hO hl) ?_
  refine zz_iconst (v := 1) (by decide) dX1_lengthen_9 ?_
  refine zz_isub dX1_lengthen_10 ?_
  refine zz_istore_n dX1_lengthen_11 (by decide) ?_
  try dsimp only [zz_s1, zz_s2, zz_kill, zz_ent, zz_fl, List.set_cons_zero, List.set_cons_succ, List.getElem?_cons_zero, List.getElem?_cons_succ, Option.toList_some, Option.toList_none, List.cons_append, List.nil_append, List.append_nil, List.length_cons, List.length_nil, List.replicate_succ, List.replicate_zero, Nat.reduceAdd, Nat.reduceSub]
  rw [h1, hc.2.1, show nI n - 1 = nI n + (-1) from Int32.sub_eq_add_neg _ _]
  have inner : ∀ (a v : Nat) (Jx : zz_J), a < n → v < W → Jx 9 v = J 9 v → (∀ set : Int64, (∀ i, i < 64 → bl set i = tbb E N W (n * W) a v i) → zz_G mX1_lengthen (d + 2) 0 84 [some (.ref 8), some (.ref (LN l)), some (.int (nI W)), some (.int (nI a)), some (.int (nI v)), some (.long set), none, some (.int (nI n))] [] M I Jx Q) → ∀ (q b : Nat) (set : Int64), b + q = n → (∀ i, i < 64 → bl set i = tbb E N W (b * W) a v i) → zz_G mX1_lengthen (d + 2) 0 42 [some (.ref 8), some (.ref (LN l)), some (.int (nI W)), some (.int (nI a)), some (.int (nI v)), some (.long set), none, some (.int (nI b))] [] M I Jx Q := by
    intro a v Jx ha hv hJ hk q
    induction q with
    | zero =>
      intro b set hb hs
      have e : b = n := by omega
      subst e
      refine zz_iload rfl dX1_lengthen_42 ?_
      refine zz_aload_n rfl dX1_lengthen_44 ?_
      refine zz_geti dX1_lengthen_45 fX1_43 rfl (ol_obj hO hl) ?_
      try dsimp only [zz_s1, zz_s2, zz_kill, zz_ent, zz_fl, List.set_cons_zero, List.set_cons_succ, List.getElem?_cons_zero, List.getElem?_cons_succ, Option.toList_some, Option.toList_none, List.cons_append, List.nil_append, List.append_nil, List.length_cons, List.length_nil, List.replicate_succ, List.replicate_zero, Nat.reduceAdd, Nat.reduceSub]
      rw [hc.2.1]
      refine zz_icmp_ge (tgt := 84) dX1_lengthen_48 (by decide) (fun h => ?_) (fun h => ?_)
      · exact hk set hs
      · exact absurd (nI_le (Nat.le_refl b) (by omega)) h
    | succ q ih =>
      intro b set hb hs
      have hbW : (b + 1) * W ≤ 64 := Nat.le_trans (Nat.mul_le_mul_right W (by omega)) hWn
      have hbW2 : b * W < 64 := by rw [Nat.add_mul] at hbW; omega
      refine zz_iload rfl dX1_lengthen_42 ?_
      refine zz_aload_n rfl dX1_lengthen_44 ?_
      refine zz_geti dX1_lengthen_45 fX1_43 rfl (ol_obj hO hl) ?_
      try dsimp only [zz_s1, zz_s2, zz_kill, zz_ent, zz_fl, List.set_cons_zero, List.set_cons_succ, List.getElem?_cons_zero, List.getElem?_cons_succ, Option.toList_some, Option.toList_none, List.cons_append, List.nil_append, List.append_nil, List.length_cons, List.length_nil, List.replicate_succ, List.replicate_zero, Nat.reduceAdd, Nat.reduceSub]
      rw [hc.2.1]
      refine zz_icmp_ge (tgt := 84) dX1_lengthen_48 (by decide) (fun h => ?_) (fun h => ?_)
      · exact absurd h (nI_ge (by omega) (by omega))
      · skip
        refine zz_aload_n rfl dX1_lengthen_51 ?_
        refine zz_iload_n rfl dX1_lengthen_52 ?_
        refine zz_iload rfl dX1_lengthen_53 ?_
        try dsimp only [zz_s1, zz_s2, zz_kill, zz_ent, zz_fl, List.set_cons_zero, List.set_cons_succ, List.getElem?_cons_zero, List.getElem?_cons_succ, Option.toList_some, Option.toList_none, List.cons_append, List.nil_append, List.append_nil, List.length_cons, List.length_nil, List.replicate_succ, List.replicate_zero, Nat.reduceAdd, Nat.reduceSub]
        refine zz_cV2 dX1_lengthen_55 lX1_48 rfl (ol_obj hO hl) rfl rfl (Nat.le_of_ble_eq_true rfl) (Nat.le_of_ble_eq_true rfl) ?_
        refine sp_X3_alike d hO hl (vp_in_nI (show a < 24 by omega) (by decide)) (fun r hr => ?_)
        try dsimp only [zz_s1, zz_s2, zz_kill, zz_ent, zz_fl, List.set_cons_zero, List.set_cons_succ, List.getElem?_cons_zero, List.getElem?_cons_succ, Option.toList_some, Option.toList_none, List.cons_append, List.nil_append, List.append_nil, List.length_cons, List.length_nil, List.replicate_succ, List.replicate_zero, Nat.reduceAdd, Nat.reduceSub]
        have hr : bo r (lkB E a b = true) := bo.iff hr (by
          rw [nI_clamp (by omega), nI_eq (by omega) (by omega), bt1_iff _ (by omega), hc.2.2.2.1 _ (by omega) _ (by omega), lkB_iff]
          exact Iff.rfl)
        refine zz_if_eq (tgt := 78) dX1_lengthen_58 (by decide) (fun h2 => ?_) (fun h2 => ?_)
        · refine zz_iinc dX1_lengthen_78 rfl (congrArg (HAdd.hAdd _) (show Int32.ofInt 1 = 1 by decide)) (by decide) ?_
          refine zz_goto (tgt := 42) dX1_lengthen_81 (by decide) ?_
          try dsimp only [zz_s1, zz_s2, zz_kill, zz_ent, zz_fl, List.set_cons_zero, List.set_cons_succ, List.getElem?_cons_zero, List.getElem?_cons_succ, Option.toList_some, Option.toList_none, List.cons_append, List.nil_append, List.append_nil, List.length_cons, List.length_nil, List.replicate_succ, List.replicate_zero, Nat.reduceAdd, Nat.reduceSub]
          rw [nI_1]
          exact ih (b + 1) set (by omega) (tbb_n hs (by simpa using hr.f h2))
        · skip
          refine zz_lload rfl dX1_lengthen_61 ?_
          refine zz_aload_n rfl dX1_lengthen_63 ?_
          refine zz_getr dX1_lengthen_64 fX1_9 (fun _ _ _ _ => rfl) (os_8 hO) (or_8_0 hO) ?_
          refine zz_iload rfl dX1_lengthen_67 ?_
          refine zz_lald dX1_lengthen_69 (os_9 hO) (vp_in_nI (show v < 64 by omega) (by decide)) ?_
          refine zz_iload rfl dX1_lengthen_70 ?_
          refine zz_iload_n rfl dX1_lengthen_72 ?_
          refine zz_imul dX1_lengthen_73 ?_
          refine zz_lshl dX1_lengthen_74 ?_
          refine zz_lor dX1_lengthen_75 ?_
          refine zz_lstore dX1_lengthen_76 (by decide) ?_
          refine zz_iinc dX1_lengthen_78 rfl (congrArg (HAdd.hAdd _) (show Int32.ofInt 1 = 1 by decide)) (by decide) ?_
          refine zz_goto (tgt := 42) dX1_lengthen_81 (by decide) ?_
          try dsimp only [zz_s1, zz_s2, zz_kill, zz_ent, zz_fl, List.set_cons_zero, List.set_cons_succ, List.getElem?_cons_zero, List.getElem?_cons_succ, Option.toList_some, Option.toList_none, List.cons_append, List.nil_append, List.append_nil, List.length_cons, List.length_nil, List.replicate_succ, List.replicate_zero, Nat.reduceAdd, Nat.reduceSub]
          rw [nI_1, nI_clamp (show v < 2 ^ 31 by omega), pk_mul, hJ]
          exact ih (b + 1) _ (by omega) (tbb_y hbW hW1 hs (hN v hv) (hr.t h2))
  have mid : ∀ (a : Nat), a < n → (∀ (Jx : zz_J) (z4 z5 z7 : Option Value), (∀ c, c ≠ 9 → Jx c = J c) → (1 ≤ a → ∀ v, v < W → Jx 9 v = J 9 v) → (∀ b, a ≤ b → b < n → ∀ v, v < W → ∀ i, i < 64 → bl (Jx 9 (b * W + v)) i = tbb E N W (n * W) b v i) → zz_G mX1_lengthen (d + 2) 0 103 [some (.ref 8), some (.ref (LN l)), some (.int (nI W)), some (.int (nI a)), z4, z5, none, z7] [] M I Jx Q) → ∀ (q v : Nat) (Jx : zz_J) (z5 z7 : Option Value), v + q = W → (∀ c, c ≠ 9 → Jx c = J c) → (∀ v', v' < W → (1 ≤ a ∨ v ≤ v') → Jx 9 v' = J 9 v') → (∀ b, a < b → b < n → ∀ v, v < W → ∀ i, i < 64 → bl (Jx 9 (b * W + v)) i = tbb E N W (n * W) b v i) → (∀ v', v' < v → ∀ i, i < 64 → bl (Jx 9 (a * W + v')) i = tbb E N W (n * W) a v' i) → zz_G mX1_lengthen (d + 2) 0 19 [some (.ref 8), some (.ref (LN l)), some (.int (nI W)), some (.int (nI a)), some (.int (nI v)), z5, none, z7] [] M I Jx Q := by
    intro a ha hk q
    have haW : a * W + W ≤ 64 := by
      have : (a + 1) * W ≤ n * W := Nat.mul_le_mul_right W (by omega)
      rw [Nat.add_mul] at this
      omega
    induction q with
    | zero =>
      intro v Jx z5 z7 hv f1 f2 f3 f4
      have e : v = W := by omega
      subst e
      refine zz_iload rfl dX1_lengthen_19 ?_
      refine zz_iload_n rfl dX1_lengthen_21 ?_
      try dsimp only [zz_s1, zz_s2, zz_kill, zz_ent, zz_fl, List.set_cons_zero, List.set_cons_succ, List.getElem?_cons_zero, List.getElem?_cons_succ, Option.toList_some, Option.toList_none, List.cons_append, List.nil_append, List.append_nil, List.length_cons, List.length_nil, List.replicate_succ, List.replicate_zero, Nat.reduceAdd, Nat.reduceSub]
      refine zz_icmp_ge (tgt := 103) dX1_lengthen_22 (by decide) (fun h => ?_) (fun h => ?_)
      · refine hk Jx _ _ _ f1 (fun h1 v' hv' => f2 v' hv' (Or.inl h1)) (fun b hb1 hb2 v' hv' i hi => ?_)
        by_cases e : b = a
        · rw [e]; exact f4 v' hv' i hi
        · exact f3 b (by omega) hb2 v' hv' i hi
      · exact absurd (nI_le (Nat.le_refl v) (by omega)) h
    | succ q ih =>
      intro v Jx z5 z7 hv f1 f2 f3 f4
      refine zz_iload rfl dX1_lengthen_19 ?_
      refine zz_iload_n rfl dX1_lengthen_21 ?_
      try dsimp only [zz_s1, zz_s2, zz_kill, zz_ent, zz_fl, List.set_cons_zero, List.set_cons_succ, List.getElem?_cons_zero, List.getElem?_cons_succ, Option.toList_some, Option.toList_none, List.cons_append, List.nil_append, List.append_nil, List.length_cons, List.length_nil, List.replicate_succ, List.replicate_zero, Nat.reduceAdd, Nat.reduceSub]
      refine zz_icmp_ge (tgt := 103) dX1_lengthen_22 (by decide) (fun h => ?_) (fun h => ?_)
      · exact absurd h (nI_ge (by omega) (by omega))
      · skip
        refine zz_iload_n rfl dX1_lengthen_25 ?_
        refine zz_iload_n rfl dX1_lengthen_26 ?_
        refine zz_imul dX1_lengthen_27 ?_
        refine zz_iload rfl dX1_lengthen_28 ?_
        refine zz_iadd dX1_lengthen_30 ?_
        refine zz_bipush (v := 64) (by decide) dX1_lengthen_31 ?_
        try dsimp only [zz_s1, zz_s2, zz_kill, zz_ent, zz_fl, List.set_cons_zero, List.set_cons_succ, List.getElem?_cons_zero, List.getElem?_cons_succ, Option.toList_some, Option.toList_none, List.cons_append, List.nil_append, List.append_nil, List.length_cons, List.length_nil, List.replicate_succ, List.replicate_zero, Nat.reduceAdd, Nat.reduceSub]
        rw [pk_mul, nI_add]
        refine zz_icmp_ge (tgt := 103) dX1_lengthen_33 (by decide) (fun h2 => ?_) (fun h2 => ?_)
        · exact absurd h2 (nI_ge (b := 64) (by omega) (by decide))
        · skip
          refine zz_lconst (v := 0) (by decide) dX1_lengthen_36 ?_
          refine zz_lstore dX1_lengthen_37 (by decide) ?_
          refine zz_iconst (v := 0) (by decide) dX1_lengthen_39 ?_
          refine zz_istore dX1_lengthen_40 (by decide) ?_
          try dsimp only [zz_s1, zz_s2, zz_kill, zz_ent, zz_fl, List.set_cons_zero, List.set_cons_succ, List.getElem?_cons_zero, List.getElem?_cons_succ, Option.toList_some, Option.toList_none, List.cons_append, List.nil_append, List.append_nil, List.length_cons, List.length_nil, List.replicate_succ, List.replicate_zero, Nat.reduceAdd, Nat.reduceSub]
          refine inner a v Jx ha (by omega) (f2 v (by omega) (Or.inr (Nat.le_refl _))) (fun set hs => ?_) n 0 0 (by omega) (fun i hi => ?_)
          · skip
            refine zz_aload_n rfl dX1_lengthen_84 ?_
            refine zz_getr dX1_lengthen_85 fX1_9 (fun _ _ _ _ => rfl) (os_8 hO) (or_8_0 hO) ?_
            refine zz_iload_n rfl dX1_lengthen_88 ?_
            refine zz_iload_n rfl dX1_lengthen_89 ?_
            refine zz_imul dX1_lengthen_90 ?_
            refine zz_iload rfl dX1_lengthen_91 ?_
            refine zz_iadd dX1_lengthen_93 ?_
            refine zz_lload rfl dX1_lengthen_94 ?_
            refine zz_last dX1_lengthen_96 (os_9 hO) (by rw [pk_mul, nI_add]; exact vp_in_nI (by omega) (by decide)) ?_
            refine zz_iinc dX1_lengthen_97 rfl (congrArg (HAdd.hAdd _) (show Int32.ofInt 1 = 1 by decide)) (by decide) ?_
            refine zz_goto (tgt := 19) dX1_lengthen_100 (by decide) ?_
            try dsimp only [zz_s1, zz_s2, zz_kill, zz_ent, zz_fl, List.set_cons_zero, List.set_cons_succ, List.getElem?_cons_zero, List.getElem?_cons_succ, Option.toList_some, Option.toList_none, List.cons_append, List.nil_append, List.append_nil, List.length_cons, List.length_nil, List.replicate_succ, List.replicate_zero, Nat.reduceAdd, Nat.reduceSub]
            rw [nI_1, pk_mul, nI_add, nI_clamp (show a * W + v < 2 ^ 31 by omega)]
            refine ih (v + 1) _ _ _ (by omega) (fun c hc => ?_) (fun v' hv' hd => ?_) (fun b hb1 hb2 v' hv' i hi => ?_) (fun v' hv' i hi => ?_)
            · rw [zz_uj_ne _ _ _ hc]; exact f1 c hc
            · rw [zz_uj_at, pk_uLn]
              · exact f2 v' hv' (by omega)
              · intro e
                rcases Nat.eq_zero_or_pos a with z | z
                · rw [z, Nat.zero_mul] at e
                  omega
                · have := Nat.mul_le_mul_right W z
                  rw [Nat.succ_mul] at this
                  omega
            · have : a * W + W ≤ b * W := by
                have := Nat.mul_le_mul_right W hb1
                rw [Nat.succ_mul] at this
                omega
              rw [zz_uj_at, pk_uLn (by omega)]
              exact f3 b hb1 hb2 v' hv' i hi
            · rw [zz_uj_at]
              by_cases e : v' = v
              · rw [e, pk_uLs]; exact hs i hi
              · rw [pk_uLn (by omega)]; exact f4 v' (by omega) i hi
          · unfold tbb
            rw [bl_0, Nat.zero_mul]
            simp
  have outer : ∀ (q : Nat) (Jx : zz_J) (z4 z5 z7 : Option Value), q ≤ n → (∀ c, c ≠ 9 → Jx c = J c) → (1 ≤ q → ∀ v, v < W → Jx 9 v = J 9 v) → (∀ b, q ≤ b → b < n → ∀ v, v < W → ∀ i, i < 64 → bl (Jx 9 (b * W + v)) i = tbb E N W (n * W) b v i) → zz_G mX1_lengthen (d + 2) 0 12 [some (.ref 8), some (.ref (LN l)), some (.int (nI W)), some (.int (nI q + (-1))), z4, z5, none, z7] [] M I Jx Q := by
    intro q
    induction q with
    | zero =>
      intro Jx z4 z5 z7 hq f1 f2 f3
      refine zz_iload_n rfl dX1_lengthen_12 ?_
      try dsimp only [zz_s1, zz_s2, zz_kill, zz_ent, zz_fl, List.set_cons_zero, List.set_cons_succ, List.getElem?_cons_zero, List.getElem?_cons_succ, Option.toList_some, Option.toList_none, List.cons_append, List.nil_append, List.append_nil, List.length_cons, List.length_nil, List.replicate_succ, List.replicate_zero, Nat.reduceAdd, Nat.reduceSub]
      refine zz_if_lt (tgt := 109) dX1_lengthen_13 (by decide) (fun h => ?_) (fun h => ?_)
      · refine zz_aload_n rfl dX1_lengthen_109 ?_
        refine zz_bipush (v := 64) (by decide) dX1_lengthen_110 ?_
        refine zz_iload_n rfl dX1_lengthen_112 ?_
        refine zz_aload_n rfl dX1_lengthen_113 ?_
        refine zz_geti dX1_lengthen_114 fX1_43 rfl (ol_obj hO hl) ?_
        refine zz_imul dX1_lengthen_117 ?_
        try dsimp only [zz_s1, zz_s2, zz_kill, zz_ent, zz_fl, List.set_cons_zero, List.set_cons_succ, List.getElem?_cons_zero, List.getElem?_cons_succ, Option.toList_some, Option.toList_none, List.cons_append, List.nil_append, List.append_nil, List.length_cons, List.length_nil, List.replicate_succ, List.replicate_zero, Nat.reduceAdd, Nat.reduceSub]
        rw [hc.2.1, pk_mul, Nat.mul_comm W n]
        refine zz_mmin dX1_lengthen_118 lX1_52 (Nat.le_of_ble_eq_true rfl) ?_
        try dsimp only [zz_s1, zz_s2, zz_kill, zz_ent, zz_fl, List.set_cons_zero, List.set_cons_succ, List.getElem?_cons_zero, List.getElem?_cons_succ, Option.toList_some, Option.toList_none, List.cons_append, List.nil_append, List.append_nil, List.length_cons, List.length_nil, List.replicate_succ, List.replicate_zero, Nat.reduceAdd, Nat.reduceSub]
        rw [show (if nI (n * W) < (64 : Int32) then nI (n * W) else 64) = nI (n * W) from by
          by_cases z : n * W < 64
          · rw [if_pos (show nI (n * W) < (64 : Int32) from nI_lt (b := 64) z (by decide))]
          · have e : n * W = 64 := by omega
            rw [e]; rfl]
        refine zz_puti dX1_lengthen_121 fX1_15 rfl (fun q h => by cases h; rfl) (os_8 hO) ?_
        refine zz_return dX1_lengthen_124 rfl ?_
        refine hQ Jx f1 (fun x hx w => ?_)
        have hdx : x / W < n := by rw [Nat.div_lt_iff_lt_mul (by omega)]; exact hx
        have hmx : x % W < W := Nat.mod_lt _ (by omega)
        have ex : x / W * W + x % W = x := by rw [Nat.mul_comm]; exact Nat.div_add_mod x W
        by_cases hw : w < 64
        · have := f3 (x / W) (Nat.zero_le _) hdx (x % W) hmx w hw
          rw [ex] at this
          rw [this]
          rfl
        · rw [bl_big (by omega)]
          simp [show ¬ w < n * W by omega]
      · exact absurd nI_d0 h
    | succ q ih =>
      intro Jx z4 z5 z7 hq f1 f2 f3
      rw [nI_dn]
      refine zz_iload_n rfl dX1_lengthen_12 ?_
      try dsimp only [zz_s1, zz_s2, zz_kill, zz_ent, zz_fl, List.set_cons_zero, List.set_cons_succ, List.getElem?_cons_zero, List.getElem?_cons_succ, Option.toList_some, Option.toList_none, List.cons_append, List.nil_append, List.append_nil, List.length_cons, List.length_nil, List.replicate_succ, List.replicate_zero, Nat.reduceAdd, Nat.reduceSub]
      refine zz_if_lt (tgt := 109) dX1_lengthen_13 (by decide) (fun h => ?_) (fun h => ?_)
      · exact absurd h (nI_nn (by omega))
      · skip
        refine zz_iconst (v := 0) (by decide) dX1_lengthen_16 ?_
        refine zz_istore dX1_lengthen_17 (by decide) ?_
        try dsimp only [zz_s1, zz_s2, zz_kill, zz_ent, zz_fl, List.set_cons_zero, List.set_cons_succ, List.getElem?_cons_zero, List.getElem?_cons_succ, Option.toList_some, Option.toList_none, List.cons_append, List.nil_append, List.append_nil, List.length_cons, List.length_nil, List.replicate_succ, List.replicate_zero, Nat.reduceAdd, Nat.reduceSub]
        refine mid q (by omega) (fun Jy z4 z5 z7 k1 k2 k3 => ?_) W 0 Jx _ _ (by omega) f1 (fun v hv _ => f2 (by omega) v hv) (fun b hb1 hb2 => f3 b (by omega) hb2) (fun v' hv' => by omega)
        refine zz_iinc dX1_lengthen_103 rfl (congrArg (HAdd.hAdd _) (show Int32.ofInt (-1) = (-1) by decide)) (by decide) ?_
        refine zz_goto (tgt := 12) dX1_lengthen_106 (by decide) ?_
        try dsimp only [zz_s1, zz_s2, zz_kill, zz_ent, zz_fl, List.set_cons_zero, List.set_cons_succ, List.getElem?_cons_zero, List.getElem?_cons_succ, Option.toList_some, Option.toList_none, List.cons_append, List.nil_append, List.append_nil, List.length_cons, List.length_nil, List.replicate_succ, List.replicate_zero, Nat.reduceAdd, Nat.reduceSub]
        exact ih Jy _ _ _ (by omega) k1 k2 k3
  exact outer n J _ _ _ (Nat.le_refl _) (fun _ _ => rfl) (fun _ _ _ => rfl) (fun b h1 h2 => by omega)
theorem sp_X1_lay (d : Nat) (hO : OK M) {l n k : Nat} {kd ag : Int32} {E : Nat → Nat → Bool} {sg : Nat → Int32} {rw : Nat → Nat → Int32} (hl : l < 8) (hn1 : 1 ≤ n) (hn : n ≤ 24) (hc : CL I l n kd ag E sg rw) (hk : k ≤ 6) (hnk : n ^ k ≤ 64) (hQ : ∀ (I' : zz_I) (J' : zz_J), (∀ a, a ≠ 8 → I' a = I a) → (∀ i, i ≠ 1 → I' 8 i = I 8 i) → (∀ a, a ≠ 9 → J' a = J a) → I' 8 1 = nI (n ^ k) → NBs J' (n ^ k) (tkB n E k) → Q none M I' J') : zz_D mX1_lay (d + 3) [.ref 8, .ref (LN l), .int (nI k)] M I J Q := by
  have hL8 : 26 < LN l := by unfold LN; omega
  refine zz_D_of rfl (Nat.le_of_ble_eq_true rfl) ?_
  try dsimp only [zz_s1, zz_s2, zz_kill, zz_ent, zz_fl, List.set_cons_zero, List.set_cons_succ, List.getElem?_cons_zero, List.getElem?_cons_succ, Option.toList_some, Option.toList_none, List.cons_append, List.nil_append, List.append_nil, List.length_cons, List.length_nil, List.replicate_succ, List.replicate_zero, Nat.reduceAdd, Nat.reduceSub]
  refine zz_aload_n rfl dX1_lay_0 ?_
  refine zz_iconst (v := 1) (by decide) dX1_lay_1 ?_
  refine zz_puti dX1_lay_2 fX1_15 rfl (fun q h => by cases h; rfl) (os_8 hO) ?_
  refine zz_aload_n rfl dX1_lay_5 ?_
  refine zz_getr dX1_lay_6 fX1_9 (fun _ _ _ _ => rfl) (os_8 hO) (or_8_0 hO) ?_
  refine zz_iconst (v := 0) (by decide) dX1_lay_9 ?_
  refine zz_lconst (v := 1) (by decide) dX1_lay_10 ?_
  refine zz_last dX1_lay_11 (os_9 hO) (vp_in_nI (n := 0) (by decide) (by decide)) ?_
  refine zz_iconst (v := 0) (by decide) dX1_lay_12 ?_
  refine zz_istore_n dX1_lay_13 (by decide) ?_
  try dsimp only [zz_s1, zz_s2, zz_kill, zz_ent, zz_fl, List.set_cons_zero, List.set_cons_succ, List.getElem?_cons_zero, List.getElem?_cons_succ, Option.toList_some, Option.toList_none, List.cons_append, List.nil_append, List.append_nil, List.length_cons, List.length_nil, List.replicate_succ, List.replicate_zero, Nat.reduceAdd, Nat.reduceSub]
  have loop : ∀ (q i : Nat) (Ix : zz_I) (Jx : zz_J), i + q = k → (∀ a, a ≠ 8 → Ix a = I a) → (∀ j, j ≠ 1 → Ix 8 j = I 8 j) → (∀ a, a ≠ 9 → Jx a = J a) → Ix 8 1 = nI (n ^ i) → NBs Jx (n ^ i) (tkB n E i) → zz_G mX1_lay (d + 3) 0 14 [some (.ref 8), some (.ref (LN l)), some (.int (nI k)), some (.int (nI i))] [] M Ix Jx Q := by
    intro q
    induction q with
    | zero =>
      intro i Ix Jx hi f1 f2 f3 f4 f5
      have e : i = k := by omega
      subst e
      refine zz_iload_n rfl dX1_lay_14 ?_
      refine zz_iload_n rfl dX1_lay_15 ?_
      try dsimp only [zz_s1, zz_s2, zz_kill, zz_ent, zz_fl, List.set_cons_zero, List.set_cons_succ, List.getElem?_cons_zero, List.getElem?_cons_succ, Option.toList_some, Option.toList_none, List.cons_append, List.nil_append, List.append_nil, List.length_cons, List.length_nil, List.replicate_succ, List.replicate_zero, Nat.reduceAdd, Nat.reduceSub]
      refine zz_icmp_ge (tgt := 30) dX1_lay_16 (by decide) (fun h => ?_) (fun h => ?_)
      · refine zz_return dX1_lay_30 rfl ?_
        exact hQ Ix Jx f1 f2 f3 f4 f5
      · exact absurd (nI_le (Nat.le_refl i) (by omega)) h
    | succ q ih =>
      intro i Ix Jx hi f1 f2 f3 f4 f5
      have hp : 1 ≤ n ^ i := Nat.pow_pos (by omega)
      have e1 : n * n ^ i = n ^ (i + 1) := by rw [Nat.pow_succ, Nat.mul_comm]
      have hle : n ^ (i + 1) ≤ 64 := Nat.le_trans (Nat.pow_le_pow_right (by omega) (by omega)) hnk
      have hcx : CL Ix l n kd ag E sg rw := by
        refine ⟨?_, ?_, ?_, fun a ha b hb => ?_, fun a ha => ?_, fun a ha i hi => ?_⟩
        · rw [f1 _ (by omega)]; exact hc.1
        · rw [f1 _ (by omega)]; exact hc.2.1
        · rw [f1 _ (by omega)]; exact hc.2.2.1
        · rw [f1 _ (by omega)]; exact hc.2.2.2.1 a ha b hb
        · rw [f1 _ (by omega)]; exact hc.2.2.2.2.1 a ha
        · rw [f1 _ (by omega)]; exact hc.2.2.2.2.2 a ha i hi
      refine zz_iload_n rfl dX1_lay_14 ?_
      refine zz_iload_n rfl dX1_lay_15 ?_
      try dsimp only [zz_s1, zz_s2, zz_kill, zz_ent, zz_fl, List.set_cons_zero, List.set_cons_succ, List.getElem?_cons_zero, List.getElem?_cons_succ, Option.toList_some, Option.toList_none, List.cons_append, List.nil_append, List.append_nil, List.length_cons, List.length_nil, List.replicate_succ, List.replicate_zero, Nat.reduceAdd, Nat.reduceSub]
      refine zz_icmp_ge (tgt := 30) dX1_lay_16 (by decide) (fun h => ?_) (fun h => ?_)
      · exact absurd h (nI_ge (by omega) (by omega))
      · skip
        refine zz_aload_n rfl dX1_lay_19 ?_
        refine zz_aload_n rfl dX1_lay_20 ?_
        try dsimp only [zz_s1, zz_s2, zz_kill, zz_ent, zz_fl, List.set_cons_zero, List.set_cons_succ, List.getElem?_cons_zero, List.getElem?_cons_succ, Option.toList_some, Option.toList_none, List.cons_append, List.nil_append, List.append_nil, List.length_cons, List.length_nil, List.replicate_succ, List.replicate_zero, Nat.reduceAdd, Nat.reduceSub]
        refine zz_cV1 dX1_lay_21 lX1_29 rfl (os_8 hO) rfl rfl (Nat.le_of_ble_eq_true rfl) (Nat.le_of_ble_eq_true rfl) ?_
        refine sp_lengthen d hO hl hn1 hn hcx hp (by omega) f4 f5 (fun J' k1 k2 => ?_)
        try dsimp only [zz_s1, zz_s2, zz_kill, zz_ent, zz_fl, List.set_cons_zero, List.set_cons_succ, List.getElem?_cons_zero, List.getElem?_cons_succ, Option.toList_some, Option.toList_none, List.cons_append, List.nil_append, List.append_nil, List.length_cons, List.length_nil, List.replicate_succ, List.replicate_zero, Nat.reduceAdd, Nat.reduceSub]
        refine zz_iinc dX1_lay_24 rfl (congrArg (HAdd.hAdd _) (show Int32.ofInt 1 = 1 by decide)) (by decide) ?_
        refine zz_goto (tgt := 14) dX1_lay_27 (by decide) ?_
        try dsimp only [zz_s1, zz_s2, zz_kill, zz_ent, zz_fl, List.set_cons_zero, List.set_cons_succ, List.getElem?_cons_zero, List.getElem?_cons_succ, Option.toList_some, Option.toList_none, List.cons_append, List.nil_append, List.append_nil, List.length_cons, List.length_nil, List.replicate_succ, List.replicate_zero, Nat.reduceAdd, Nat.reduceSub]
        rw [nI_1]
        refine ih (i + 1) _ J' (by omega) (fun a ha => ?_) (fun j hj => ?_) (fun a ha => (k1 a ha).trans (f3 a ha)) ?_ ?_
        · rw [zz_ui_ne _ _ _ ha]; exact f1 a ha
        · rw [zz_ui_at, pk_un hj]; exact f2 j hj
        · rw [zz_ui_at, pk_us, e1]
        · rw [e1] at k2
          intro x hx w
          rw [k2 x hx w]
          by_cases hw : w < n ^ (i + 1)
          · have dv : ∀ y, y < n ^ (i + 1) → y / n ^ i < n ∧ y % n ^ i < n ^ i ∧ y / n ^ i * n ^ i + y % n ^ i = y := fun y hy => by
              refine ⟨?_, Nat.mod_lt _ (by omega), ?_⟩
              · rw [Nat.div_lt_iff_lt_mul (by omega), e1]; exact hy
              · rw [Nat.mul_comm]; exact Nat.div_add_mod y _
            obtain ⟨a1, a2, a3⟩ := dv x hx
            obtain ⟨b1, b2, b3⟩ := dv w hw
            have := tkB_top (E := E) (show 0 < n by omega) a1 b1 i _ _ a2 b2
            rw [a3, b3] at this
            rw [this]
          · simp [hw]
  refine loop k 0 _ _ (by omega) (fun a ha => ?_) (fun j hj => ?_) (fun a ha => ?_) ?_ ?_
  · rw [zz_ui_ne _ _ _ ha]
  · rw [zz_ui_at, pk_un hj]
  · rw [zz_uj_ne _ _ _ ha]
  · rw [zz_ui_at, pk_us]; rfl
  · intro v hv w
    rw [Nat.pow_zero] at hv
    have e : v = 0 := by omega
    subst e
    rw [zz_uj_at, show (0 : Int32).toNatClampNeg = 0 from rfl, pk_uLs, Nat.pow_zero, show (1 : Int64) = lN 1 from rfl, bl_lN]
    show _ = (decide (w < 1) && true)
    by_cases hw : w = 0
    · subst hw; rfl
    · rw [show Nat.testBit 1 w = false from by rw [show (1 : Nat) = 2 ^ 0 from rfl, Nat.testBit_two_pow]; simp; omega]
      simp; omega
end PLay

