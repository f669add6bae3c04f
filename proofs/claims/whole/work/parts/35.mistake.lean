/-! ===== mistake ===== -/
theorem b_1 : ∀ i, i < 32 → bt 1 i = decide (i = 0) := by decide +kernel
theorem b_low0 (y : Int32) : (y &&& 1 = 0) ↔ bt y 0 = false := by
  constructor
  · intro h
    have := b_and y 1 0
    rw [h, b_0, b_1 0 (by decide)] at this
    simpa using this.symm
  · intro h
    apply b_ext
    intro i hi
    rw [b_and, b_0, b_1 i hi]
    by_cases e : i = 0
    · subst e; simp [h]
    · simp [e]
theorem b_low1 (y : Int32) : (y &&& 1 = 1) ↔ bt y 0 = true := by
  constructor
  · intro h
    have := b_and y 1 0
    rw [h, b_1 0 (by decide)] at this
    simpa using this.symm
  · intro h
    apply b_ext
    intro i hi
    rw [b_and, b_1 i hi]
    by_cases e : i = 0
    · subst e; simp [h]
    · simp [e]
theorem bt1_iff (x : Int32) {b : Nat} (hb : b < 32) : bt1 x (nI b) ↔ bt x b = true := by
  unfold bt1
  rw [b_low0, show bt (jv_ushr x (nI b)) 0 = bt x (b + 0) from b_ushr b hb x 0, Nat.add_zero]
  cases bt x b <;> simp
theorem sh1_iff (x : Int32) {b : Nat} (hb : b < 32) : ((x >>> (nI b &&& 31)) &&& 1 = 1) ↔ bt x b = true := by
  rw [b_low1, b_sshr b hb x (by decide), if_pos (by omega), Nat.add_zero]
theorem b_bit {b y : Nat} (hb : b < 32) (hy : y < 32) : bt ((1 : Int32) <<< (nI b &&& 31)) y = decide (y = b) := by
  rw [b_shl b hb 1 hy]
  by_cases h : b ≤ y
  · rw [b_1 _ (by omega)]
    by_cases e : y = b
    · subst e; simp
    · have : ¬ y - b = 0 := by omega
      simp [h, e, this]
  · have : ¬ y = b := by omega
    simp [h, this]
/-- a pair turned round -/
def tg (E : Nat → Nat → Bool) (a b : Nat) : Nat → Nat → Bool := fun x y => E x y ^^ (decide (x = a ∧ y = b) || decide (x = b ∧ y = a))
theorem tg_bits {f : Nat → Int32} {E : Nat → Nat → Bool} {a b : Nat} (h : ∀ x, x < 24 → ∀ y, y < 32 → bt (f x) y = E x y) (ha : a < 24) (hb : b < 24) (hab : a ≠ b) : ∀ x, x < 24 → ∀ y, y < 32 → bt (upd (upd f a (f a ^^^ ((1 : Int32) <<< (nI b &&& 31)))) b (upd f a (f a ^^^ ((1 : Int32) <<< (nI b &&& 31))) b ^^^ ((1 : Int32) <<< (nI a &&& 31))) x) y = tg E a b x y := by
  intro x hx y hy
  unfold tg
  by_cases e1 : x = b
  · subst e1
    rw [pk_us, pk_un (Ne.symm hab), b_xor, b_bit (by omega) hy, h x hx y hy]
    have : ¬ x = a := Ne.symm hab
    simp [this]
  · rw [pk_un e1]
    by_cases e2 : x = a
    · subst e2
      rw [pk_us, b_xor, b_bit (by omega) hy, h x hx y hy]
      simp [e1]
    · rw [pk_un e2, h x hx y hy]
      simp [e1, e2]
/-- the reference's near, l's part as an array of its own -/
theorem mt_bits {g : Nat → Int32} {E : Nat → Nat → Bool} {l a b : Nat} (h : ∀ x, x < 24 → ∀ y, y < 32 → bt (g (24 * l + x)) y = E x y) (ha : a < 24) (hb : b < 24) (hab : a ≠ b) : ∀ x, x < 24 → ∀ y, y < 32 → bt (upd (upd g (24 * l + a) (g (24 * l + a) ^^^ ((1 : Int32) <<< (nI b &&& 31)))) (24 * l + b) (upd g (24 * l + a) (g (24 * l + a) ^^^ ((1 : Int32) <<< (nI b &&& 31))) (24 * l + b) ^^^ ((1 : Int32) <<< (nI a &&& 31))) (24 * l + x)) y = tg E a b x y := by
  intro x hx y hy
  unfold tg
  by_cases e1 : x = b
  · subst e1
    rw [pk_us, pk_un (by omega), b_xor, b_bit (by omega) hy, h x hx y hy]
    have : ¬ x = a := Ne.symm hab
    simp [this]
  · rw [pk_un (by omega)]
    by_cases e2 : x = a
    · subst e2
      rw [pk_us, b_xor, b_bit (by omega) hy, h x hx y hy]
      simp [e1]
    · rw [pk_un (by omega), h x hx y hy]
      simp [e1, e2]
section PMist
variable {M : zz_M} {I : zz_I} {J : zz_J} {Q : zz_Q} {n : Nat → Nat} {kd ag : Nat → Int32} {E : Nat → Nat → Nat → Bool} {sg : Nat → Nat → Int32} {rw : Nat → Nat → Nat → Int32}
theorem has_in {a : Int32} {m : Nat} (hm : m < 2 ^ 31) : (0 ≤ a ∧ a < nI m) ↔ vp_in a m := by
  rw [vp_in_iff, Int32.le_iff_toInt_le, Int32.lt_iff_toInt_lt, nI_toInt hm]
  exact Iff.rfl
theorem sp_X9_mistake (d : Nat) (hO : OK M) {l A B on : Int32} (hon : on = 0 ∨ on = 1) (hn : ∀ j, j < 8 → n j ≤ 24) (hC : ∀ j, j < 8 → CL I j (n j) (kd j) (ag j) (E j) (sg j) (rw j))
    (h1 : ∀ j a b, j < 8 → a < n j → b < n j → a ≠ b → l = nI j → A = nI a → B = nI b → (¬ kd j = 0 → Q (some (.int (-4))) M I J) ∧ (kd j = 0 → (E j a b = decide (on = 1) → Q (some (.int 0)) M I J) ∧ (E j a b ≠ decide (on = 1) → ∀ I' : zz_I, FC j I I' → CL I' j (n j) (kd j) (ag j) (tg (E j) a b) (sg j) (fun _ _ => 0) → Q (some (.int 1)) M I' J)))
    (h2 : ¬ (∃ j a b, j < 8 ∧ a < n j ∧ b < n j ∧ a ≠ b ∧ l = nI j ∧ A = nI a ∧ B = nI b) → Q (some (.int (-2))) M I J) : zz_D mX9_mistake (d + 2) [.ref 1, .int l, .int A, .int B, .int on] M I J Q := by
  refine zz_D_of rfl (Nat.le_of_ble_eq_true rfl) ?_
  try dsimp only [zz_s1, zz_s2, zz_kill, zz_ent, zz_fl, List.set_cons_zero, List.set_cons_succ, List.getElem?_cons_zero, List.getElem?_cons_succ, Option.toList_some, Option.toList_none, List.cons_append, List.nil_append, List.append_nil, List.length_cons, List.length_nil, List.replicate_succ, List.replicate_zero, Nat.reduceAdd, Nat.reduceSub]
  refine zz_aload_n rfl dX9_mistake_0 ?_
  refine zz_iload_n rfl dX9_mistake_1 ?_
  try dsimp only [zz_s1, zz_s2, zz_kill, zz_ent, zz_fl, List.set_cons_zero, List.set_cons_succ, List.getElem?_cons_zero, List.getElem?_cons_succ, Option.toList_some, Option.toList_none, List.cons_append, List.nil_append, List.append_nil, List.length_cons, List.length_nil, List.replicate_succ, List.replicate_zero, Nat.reduceAdd, Nat.reduceSub]
  refine zz_cV1 dX9_mistake_2 lX9_100 rfl (os_1 hO) rfl rfl (Nat.le_of_ble_eq_true rfl) (Nat.le_of_ble_eq_true rfl) ?_
  refine sp_lineAt (d + 1) hO (fun j hj e => ?_) (fun hv => ?_)
  try dsimp only [zz_s1, zz_s2, zz_kill, zz_ent, zz_fl, List.set_cons_zero, List.set_cons_succ, List.getElem?_cons_zero, List.getElem?_cons_succ, Option.toList_some, Option.toList_none, List.cons_append, List.nil_append, List.append_nil, List.length_cons, List.length_nil, List.replicate_succ, List.replicate_zero, Nat.reduceAdd, Nat.reduceSub]
  · skip
    have hc := hC j hj
    have hnj := hn j hj
    refine zz_astore dX9_mistake_5 (by decide) ?_
    refine zz_aload rfl dX9_mistake_7 ?_
    try dsimp only [zz_s1, zz_s2, zz_kill, zz_ent, zz_fl, List.set_cons_zero, List.set_cons_succ, List.getElem?_cons_zero, List.getElem?_cons_succ, Option.toList_some, Option.toList_none, List.cons_append, List.nil_append, List.append_nil, List.length_cons, List.length_nil, List.replicate_succ, List.replicate_zero, Nat.reduceAdd, Nat.reduceSub]
    refine zz_ifnull dX9_mistake_9 ?_
    try dsimp only [zz_s1, zz_s2, zz_kill, zz_ent, zz_fl, List.set_cons_zero, List.set_cons_succ, List.getElem?_cons_zero, List.getElem?_cons_succ, Option.toList_some, Option.toList_none, List.cons_append, List.nil_append, List.append_nil, List.length_cons, List.length_nil, List.replicate_succ, List.replicate_zero, Nat.reduceAdd, Nat.reduceSub]
    refine zz_aload rfl dX9_mistake_12 ?_
    refine zz_iload_n rfl dX9_mistake_14 ?_
    try dsimp only [zz_s1, zz_s2, zz_kill, zz_ent, zz_fl, List.set_cons_zero, List.set_cons_succ, List.getElem?_cons_zero, List.getElem?_cons_succ, Option.toList_some, Option.toList_none, List.cons_append, List.nil_append, List.append_nil, List.length_cons, List.length_nil, List.replicate_succ, List.replicate_zero, Nat.reduceAdd, Nat.reduceSub]
    refine zz_cV1 dX9_mistake_15 lX9_108 rfl (ol_obj hO hj) rfl rfl (Nat.le_of_ble_eq_true rfl) (Nat.le_of_ble_eq_true rfl) ?_
    refine sp_X3_has (d + 1) hO hj (fun r hr => ?_)
    try dsimp only [zz_s1, zz_s2, zz_kill, zz_ent, zz_fl, List.set_cons_zero, List.set_cons_succ, List.getElem?_cons_zero, List.getElem?_cons_succ, Option.toList_some, Option.toList_none, List.cons_append, List.nil_append, List.append_nil, List.length_cons, List.length_nil, List.replicate_succ, List.replicate_zero, Nat.reduceAdd, Nat.reduceSub]
    have hr : bo r (vp_in A (n j)) := bo.iff hr (by rw [hc.2.1]; exact has_in (by omega))
    refine zz_if_eq (tgt := 35) dX9_mistake_18 (by decide) (fun h => ?_) (fun h => ?_)
    · refine zz_bipush (v := (-2)) (by decide) dX9_mistake_35 ?_
      refine zz_ireturn dX9_mistake_37 rfl (by first | rfl | decide | assumption) ?_
      refine h2 (fun ⟨j', a, b, q1, q2, q3, q4, q5, q6, q7⟩ => hr.f h ?_)
      have : j' = j := (nI_eq (by omega) (by omega)).mp (q5.symm.trans e)
      subst this
      rw [q6]
      exact vp_in_nI q2 (by omega)
    · skip
      refine zz_aload rfl dX9_mistake_21 ?_
      refine zz_iload_n rfl dX9_mistake_23 ?_
      try dsimp only [zz_s1, zz_s2, zz_kill, zz_ent, zz_fl, List.set_cons_zero, List.set_cons_succ, List.getElem?_cons_zero, List.getElem?_cons_succ, Option.toList_some, Option.toList_none, List.cons_append, List.nil_append, List.append_nil, List.length_cons, List.length_nil, List.replicate_succ, List.replicate_zero, Nat.reduceAdd, Nat.reduceSub]
      refine zz_cV1 dX9_mistake_24 lX9_108 rfl (ol_obj hO hj) rfl rfl (Nat.le_of_ble_eq_true rfl) (Nat.le_of_ble_eq_true rfl) ?_
      refine sp_X3_has (d + 1) hO hj (fun r2 hr2 => ?_)
      try dsimp only [zz_s1, zz_s2, zz_kill, zz_ent, zz_fl, List.set_cons_zero, List.set_cons_succ, List.getElem?_cons_zero, List.getElem?_cons_succ, Option.toList_some, Option.toList_none, List.cons_append, List.nil_append, List.append_nil, List.length_cons, List.length_nil, List.replicate_succ, List.replicate_zero, Nat.reduceAdd, Nat.reduceSub]
      have hr2 : bo r2 (vp_in B (n j)) := bo.iff hr2 (by rw [hc.2.1]; exact has_in (by omega))
      refine zz_if_eq (tgt := 35) dX9_mistake_27 (by decide) (fun h3 => ?_) (fun h3 => ?_)
      · refine zz_bipush (v := (-2)) (by decide) dX9_mistake_35 ?_
        refine zz_ireturn dX9_mistake_37 rfl (by first | rfl | decide | assumption) ?_
        refine h2 (fun ⟨j', a, b, q1, q2, q3, q4, q5, q6, q7⟩ => hr2.f h3 ?_)
        have : j' = j := (nI_eq (by omega) (by omega)).mp (q5.symm.trans e)
        subst this
        rw [q7]
        exact vp_in_nI q3 (by omega)
      · skip
        obtain ⟨a, ha, rfl⟩ := vp_in_of (hr.t h) (by omega)
        obtain ⟨b, hb, rfl⟩ := vp_in_of (hr2.t h3) (by omega)
        refine zz_iload_n rfl dX9_mistake_30 ?_
        refine zz_iload_n rfl dX9_mistake_31 ?_
        try dsimp only [zz_s1, zz_s2, zz_kill, zz_ent, zz_fl, List.set_cons_zero, List.set_cons_succ, List.getElem?_cons_zero, List.getElem?_cons_succ, Option.toList_some, Option.toList_none, List.cons_append, List.nil_append, List.append_nil, List.length_cons, List.length_nil, List.replicate_succ, List.replicate_zero, Nat.reduceAdd, Nat.reduceSub]
        refine zz_icmp_ne (tgt := 38) dX9_mistake_32 (by decide) (fun h4 => ?_) (fun h4 => ?_)
        · have hab : a ≠ b := fun q => h4 (by rw [q])
          obtain ⟨k1, k2⟩ := h1 j a b hj ha hb hab e rfl rfl
          refine zz_aload rfl dX9_mistake_38 ?_
          refine zz_geti dX9_mistake_40 fX9_111 rfl (ol_obj hO hj) ?_
          try dsimp only [zz_s1, zz_s2, zz_kill, zz_ent, zz_fl, List.set_cons_zero, List.set_cons_succ, List.getElem?_cons_zero, List.getElem?_cons_succ, Option.toList_some, Option.toList_none, List.cons_append, List.nil_append, List.append_nil, List.length_cons, List.length_nil, List.replicate_succ, List.replicate_zero, Nat.reduceAdd, Nat.reduceSub]
          rw [hc.1]
          refine zz_if_eq (tgt := 49) dX9_mistake_43 (by decide) (fun h5 => ?_) (fun h5 => ?_)
          · obtain ⟨k3, k4⟩ := k2 h5
            refine zz_aload rfl dX9_mistake_49 ?_
            refine zz_iload_n rfl dX9_mistake_51 ?_
            refine zz_iload_n rfl dX9_mistake_52 ?_
            try dsimp only [zz_s1, zz_s2, zz_kill, zz_ent, zz_fl, List.set_cons_zero, List.set_cons_succ, List.getElem?_cons_zero, List.getElem?_cons_succ, Option.toList_some, Option.toList_none, List.cons_append, List.nil_append, List.append_nil, List.length_cons, List.length_nil, List.replicate_succ, List.replicate_zero, Nat.reduceAdd, Nat.reduceSub]
            refine zz_cV2 dX9_mistake_53 lX9_114 rfl (ol_obj hO hj) rfl rfl (Nat.le_of_ble_eq_true rfl) (Nat.le_of_ble_eq_true rfl) ?_
            refine sp_X3_mistakes (d + 1) hO hj (vp_in_nI (show a < 24 by omega) (by omega)) (fun r3 hr3 => ?_)
            try dsimp only [zz_s1, zz_s2, zz_kill, zz_ent, zz_fl, List.set_cons_zero, List.set_cons_succ, List.getElem?_cons_zero, List.getElem?_cons_succ, Option.toList_some, Option.toList_none, List.cons_append, List.nil_append, List.append_nil, List.length_cons, List.length_nil, List.replicate_succ, List.replicate_zero, Nat.reduceAdd, Nat.reduceSub]
            have hr3 : bo r3 (E j a b = true) := bo.iff hr3 (by rw [nI_clamp (by omega), bt1_iff _ (by omega), hc.2.2.2.1 a (by omega) b (by omega)])
            refine zz_iload rfl dX9_mistake_56 ?_
            try dsimp only [zz_s1, zz_s2, zz_kill, zz_ent, zz_fl, List.set_cons_zero, List.set_cons_succ, List.getElem?_cons_zero, List.getElem?_cons_succ, Option.toList_some, Option.toList_none, List.cons_append, List.nil_append, List.append_nil, List.length_cons, List.length_nil, List.replicate_succ, List.replicate_zero, Nat.reduceAdd, Nat.reduceSub]
            refine zz_icmp_ne (tgt := 63) dX9_mistake_58 (by decide) (fun h6 => ?_) (fun h6 => ?_)
            · have hne : E j a b ≠ decide (on = 1) := by
                intro q
                apply h6
                rcases hr3 with ⟨z1, z2⟩ | ⟨z1, z2⟩
                · rw [z2] at q
                  rw [z1]
                  exact (of_decide_eq_true q.symm).symm
                · rw [z1]
                  rcases hon with z | z
                  · exact z.symm
                  · rw [z] at q
                    exact absurd q z2
              refine zz_aload rfl dX9_mistake_63 ?_
              refine zz_iload_n rfl dX9_mistake_65 ?_
              refine zz_iload_n rfl dX9_mistake_66 ?_
              try dsimp only [zz_s1, zz_s2, zz_kill, zz_ent, zz_fl, List.set_cons_zero, List.set_cons_succ, List.getElem?_cons_zero, List.getElem?_cons_succ, Option.toList_some, Option.toList_none, List.cons_append, List.nil_append, List.append_nil, List.length_cons, List.length_nil, List.replicate_succ, List.replicate_zero, Nat.reduceAdd, Nat.reduceSub]
              refine zz_cV2 dX9_mistake_67 lX9_118 rfl (ol_obj hO hj) rfl rfl (Nat.le_of_ble_eq_true rfl) (Nat.le_of_ble_eq_true rfl) ?_
              refine sp_X3_flip (d + 1) hO hj (vp_in_nI (show a < 24 by omega) (by omega)) (vp_in_nI (show b < 24 by omega) (by omega)) (fun I1 g1 g2 => ?_)
              try dsimp only [zz_s1, zz_s2, zz_kill, zz_ent, zz_fl, List.set_cons_zero, List.set_cons_succ, List.getElem?_cons_zero, List.getElem?_cons_succ, Option.toList_some, Option.toList_none, List.cons_append, List.nil_append, List.append_nil, List.length_cons, List.length_nil, List.replicate_succ, List.replicate_zero, Nat.reduceAdd, Nat.reduceSub]
              refine zz_aload rfl dX9_mistake_70 ?_
              try dsimp only [zz_s1, zz_s2, zz_kill, zz_ent, zz_fl, List.set_cons_zero, List.set_cons_succ, List.getElem?_cons_zero, List.getElem?_cons_succ, Option.toList_some, Option.toList_none, List.cons_append, List.nil_append, List.append_nil, List.length_cons, List.length_nil, List.replicate_succ, List.replicate_zero, Nat.reduceAdd, Nat.reduceSub]
              refine zz_cV0 dX9_mistake_72 lX9_121 rfl (ol_obj hO hj) rfl rfl (Nat.le_of_ble_eq_true rfl) (Nat.le_of_ble_eq_true rfl) ?_
              refine sp_X3_clearRows (d + 1) hO hj (fun I2 g3 g4 => ?_)
              try dsimp only [zz_s1, zz_s2, zz_kill, zz_ent, zz_fl, List.set_cons_zero, List.set_cons_succ, List.getElem?_cons_zero, List.getElem?_cons_succ, Option.toList_some, Option.toList_none, List.cons_append, List.nil_append, List.append_nil, List.length_cons, List.length_nil, List.replicate_succ, List.replicate_zero, Nat.reduceAdd, Nat.reduceSub]
              refine zz_iconst (v := 1) (by decide) dX9_mistake_75 ?_
              refine zz_ireturn dX9_mistake_76 rfl (by first | rfl | decide | assumption) ?_
              have eq : ∀ q, q < 4 → q ≠ 1 → I2 (LN j + q) = I (LN j + q) := fun q hq hq1 => (g3 _ (Or.inl (by omega))).trans (g1 _ (by omega))
              have eq0 : I2 (LN j) = I (LN j) := eq 0 (by decide) (by decide)
              rw [nI_clamp (show a < 2 ^ 31 by omega), nI_clamp (show b < 2 ^ 31 by omega)] at g2
              refine k4 hne I2 (fun c hc => (g3 c (by omega)).trans (g1 c (by omega))) ⟨by rw [eq0]; exact hc.1, by rw [eq0]; exact hc.2.1, by rw [eq0]; exact hc.2.2.1, ?_, fun x hx => by rw [eq 2 (by decide) (by decide)]; exact hc.2.2.2.2.1 x hx, fun x hx i hi => g4 x i hx hi⟩
              rw [g3 _ (Or.inl (by omega)), g2]
              exact tg_bits hc.2.2.2.1 (by omega) (by omega) hab
            · skip
              refine zz_iconst (v := 0) (by decide) dX9_mistake_61 ?_
              refine zz_ireturn dX9_mistake_62 rfl (by first | rfl | decide | assumption) ?_
              refine k3 ?_
              rcases hr3 with ⟨z1, z2⟩ | ⟨z1, z2⟩
              · rw [z2, ← h6, z1]; rfl
              · rw [← h6, z1]
                cases hx : E j a b with
                | false => rfl
                | true => exact absurd hx z2
          · skip
            refine zz_bipush (v := (-4)) (by decide) dX9_mistake_46 ?_
            refine zz_ireturn dX9_mistake_48 rfl (by first | rfl | decide | assumption) ?_
            exact k1 h5
        · skip
          refine zz_bipush (v := (-2)) (by decide) dX9_mistake_35 ?_
          refine zz_ireturn dX9_mistake_37 rfl (by first | rfl | decide | assumption) ?_
          refine h2 (fun ⟨j', a', b', q1, q2, q3, q4, q5, q6, q7⟩ => q4 ?_)
          have x1 : a = a' := (nI_eq (by omega) (by have := hn j' q1; omega)).mp q6
          have x2 : b = b' := (nI_eq (by omega) (by have := hn j' q1; omega)).mp q7
          have x3 : a = b := (nI_eq (by omega) (by omega)).mp h4
          omega
  · try dsimp only [zz_s1, zz_s2, zz_kill, zz_ent, zz_fl, List.set_cons_zero, List.set_cons_succ, List.getElem?_cons_zero, List.getElem?_cons_succ, Option.toList_some, Option.toList_none, List.cons_append, List.nil_append, List.append_nil, List.length_cons, List.length_nil, List.replicate_succ, List.replicate_zero, Nat.reduceAdd, Nat.reduceSub]
    refine zz_nstore dX9_mistake_5 (by decide) ?_
    refine zz_nload rfl dX9_mistake_7 ?_
    try dsimp only [zz_s1, zz_s2, zz_kill, zz_ent, zz_fl, List.set_cons_zero, List.set_cons_succ, List.getElem?_cons_zero, List.getElem?_cons_succ, Option.toList_some, Option.toList_none, List.cons_append, List.nil_append, List.append_nil, List.length_cons, List.length_nil, List.replicate_succ, List.replicate_zero, Nat.reduceAdd, Nat.reduceSub]
    refine zz_ifnullN (tgt := 35) dX9_mistake_9 (by decide) ?_
    refine zz_bipush (v := (-2)) (by decide) dX9_mistake_35 ?_
    refine zz_ireturn dX9_mistake_37 rfl (by first | rfl | decide | assumption) ?_
    exact h2 (fun ⟨j', a', b', q1, q2, q3, q4, q5, q6, q7⟩ => hv (by rw [q5]; exact vp_in_nI q1 (by decide)))
theorem sp_X10_isLetter (d : Nat) (hO : OK M) {l A : Int32} (hn : ∀ j, j < 8 → I 260 j = nI (n j) ∧ n j ≤ 24) (hQ : ∀ r : Int32, bo r (∃ j a, j < 8 ∧ a < n j ∧ l = nI j ∧ A = nI a) → Q (some (.int r)) M I J) : zz_D mX10_isLetter (d + 2) [.ref 259, .int l, .int A] M I J Q := by
  refine zz_D_of rfl (Nat.le_of_ble_eq_true rfl) ?_
  try dsimp only [zz_s1, zz_s2, zz_kill, zz_ent, zz_fl, List.set_cons_zero, List.set_cons_succ, List.getElem?_cons_zero, List.getElem?_cons_succ, Option.toList_some, Option.toList_none, List.cons_append, List.nil_append, List.append_nil, List.length_cons, List.length_nil, List.replicate_succ, List.replicate_zero, Nat.reduceAdd, Nat.reduceSub]
  refine zz_iload_n rfl dX10_isLetter_0 ?_
  try dsimp only [zz_s1, zz_s2, zz_kill, zz_ent, zz_fl, List.set_cons_zero, List.set_cons_succ, List.getElem?_cons_zero, List.getElem?_cons_succ, Option.toList_some, Option.toList_none, List.cons_append, List.nil_append, List.append_nil, List.length_cons, List.length_nil, List.replicate_succ, List.replicate_zero, Nat.reduceAdd, Nat.reduceSub]
  refine zz_cS1 dX10_isLetter_1 lX10_85 rfl (Nat.le_of_ble_eq_true rfl) (Nat.le_of_ble_eq_true rfl) ?_
  refine sp_isLine d (fun r hr => ?_)
  try dsimp only [zz_s1, zz_s2, zz_kill, zz_ent, zz_fl, List.set_cons_zero, List.set_cons_succ, List.getElem?_cons_zero, List.getElem?_cons_succ, Option.toList_some, Option.toList_none, List.cons_append, List.nil_append, List.append_nil, List.length_cons, List.length_nil, List.replicate_succ, List.replicate_zero, Nat.reduceAdd, Nat.reduceSub]
  refine zz_if_eq (tgt := 29) dX10_isLetter_4 (by decide) (fun h => ?_) (fun h => ?_)
  · refine zz_iconst (v := 0) (by decide) dX10_isLetter_29 ?_
    refine zz_ireturn dX10_isLetter_30 rfl (by first | rfl | decide | assumption) ?_
    refine hQ 0 (bo.zero fun ⟨j, a, q1, q2, q3, q4⟩ => hr.f h (by rw [q3]; exact vp_in_nI q1 (by decide)))
  · skip
    obtain ⟨j, hj, rfl⟩ := vp_in_of (hr.t h) (by decide)
    have hnj := hn j hj
    refine zz_iload_n rfl dX10_isLetter_7 ?_
    refine zz_i2l dX10_isLetter_8 ?_
    refine zz_lconst (v := 0) (by decide) dX10_isLetter_9 ?_
    refine zz_aload_n rfl dX10_isLetter_10 ?_
    refine zz_getr dX10_isLetter_11 fX10_9 (fun _ _ _ _ => rfl) (os_259 hO) (or_259_0 hO) ?_
    refine zz_iload_n rfl dX10_isLetter_14 ?_
    refine zz_iald dX10_isLetter_15 (os_260 hO) (vp_in_nI hj (by decide)) ?_
    refine zz_i2l dX10_isLetter_16 ?_
    refine zz_lconst (v := 1) (by decide) dX10_isLetter_17 ?_
    refine zz_lsub dX10_isLetter_18 ?_
    try dsimp only [zz_s1, zz_s2, zz_kill, zz_ent, zz_fl, List.set_cons_zero, List.set_cons_succ, List.getElem?_cons_zero, List.getElem?_cons_succ, Option.toList_some, Option.toList_none, List.cons_append, List.nil_append, List.append_nil, List.length_cons, List.length_nil, List.replicate_succ, List.replicate_zero, Nat.reduceAdd, Nat.reduceSub]
    refine zz_cS3 dX10_isLetter_19 lX10_81 rfl (Nat.le_of_ble_eq_true rfl) (Nat.le_of_ble_eq_true rfl) ?_
    refine sp_in (d + 1) (fun r2 hr2 => ?_)
    try dsimp only [zz_s1, zz_s2, zz_kill, zz_ent, zz_fl, List.set_cons_zero, List.set_cons_succ, List.getElem?_cons_zero, List.getElem?_cons_succ, Option.toList_some, Option.toList_none, List.cons_append, List.nil_append, List.append_nil, List.length_cons, List.length_nil, List.replicate_succ, List.replicate_zero, Nat.reduceAdd, Nat.reduceSub]
    have hr2 : bo r2 (vp_in A (n j)) := by
      rw [nI_clamp (by omega), hnj.1] at hr2
      exact hr2.iff (in_k (by omega))
    refine zz_if_eq (tgt := 29) dX10_isLetter_22 (by decide) (fun h3 => ?_) (fun h3 => ?_)
    · refine zz_iconst (v := 0) (by decide) dX10_isLetter_29 ?_
      refine zz_ireturn dX10_isLetter_30 rfl (by first | rfl | decide | assumption) ?_
      refine hQ 0 (bo.zero fun ⟨j', a, q1, q2, q3, q4⟩ => hr2.f h3 ?_)
      have : j = j' := (nI_eq (by omega) (by omega)).mp q3
      subst this
      rw [q4]
      exact vp_in_nI q2 (by omega)
    · skip
      refine zz_iconst (v := 1) (by decide) dX10_isLetter_25 ?_
      refine zz_goto (tgt := 30) dX10_isLetter_26 (by decide) ?_
      refine zz_ireturn dX10_isLetter_30 rfl (by first | rfl | decide | assumption) ?_
      obtain ⟨a, ha, rfl⟩ := vp_in_of (hr2.t h3) (by omega)
      exact hQ 1 (bo.one ⟨j, a, hj, ha, rfl, rfl⟩)
theorem sp_X10_areNear (d : Nat) (hO : OK M) {l a b : Nat} {E : Nat → Nat → Bool} (hl : l < 8) (ha : a < 24) (hb : b < 24) (hE : ∀ a, a < 24 → ∀ b, b < 32 → bt (I 262 (24 * l + a)) b = E a b) (hQ : ∀ r : Int32, bo r (E a b = true) → Q (some (.int r)) M I J) : zz_D mX10_areNear d [.ref 259, .int (nI l), .int (nI a), .int (nI b)] M I J Q := by
  have e : (24 : Int32) * nI l + nI a = nI (24 * l + a) := by rw [show (24 : Int32) = nI 24 from rfl, pk_mul, nI_add]
  refine zz_D_of rfl (Nat.le_of_ble_eq_true rfl) ?_
  try dsimp only [zz_s1, zz_s2, zz_kill, zz_ent, zz_fl, List.set_cons_zero, List.set_cons_succ, List.getElem?_cons_zero, List.getElem?_cons_succ, Option.toList_some, Option.toList_none, List.cons_append, List.nil_append, List.append_nil, List.length_cons, List.length_nil, List.replicate_succ, List.replicate_zero, Nat.reduceAdd, Nat.reduceSub]
  refine zz_aload_n rfl dX10_areNear_0 ?_
  refine zz_getr dX10_areNear_1 fX10_16 (fun _ _ _ _ => rfl) (os_259 hO) (or_259_2 hO) ?_
  refine zz_bipush (v := 24) (by decide) dX10_areNear_4 ?_
  refine zz_iload_n rfl dX10_areNear_6 ?_
  refine zz_imul dX10_areNear_7 ?_
  refine zz_iload_n rfl dX10_areNear_8 ?_
  refine zz_iadd dX10_areNear_9 ?_
  refine zz_iald dX10_areNear_10 (os_262 hO) (by rw [e]; exact vp_in_nI (by omega) (by decide)) ?_
  refine zz_iload_n rfl dX10_areNear_11 ?_
  refine zz_ishr dX10_areNear_12 ?_
  refine zz_iconst (v := 1) (by decide) dX10_areNear_13 ?_
  refine zz_iand dX10_areNear_14 ?_
  refine zz_iconst (v := 1) (by decide) dX10_areNear_15 ?_
  try dsimp only [zz_s1, zz_s2, zz_kill, zz_ent, zz_fl, List.set_cons_zero, List.set_cons_succ, List.getElem?_cons_zero, List.getElem?_cons_succ, Option.toList_some, Option.toList_none, List.cons_append, List.nil_append, List.append_nil, List.length_cons, List.length_nil, List.replicate_succ, List.replicate_zero, Nat.reduceAdd, Nat.reduceSub]
  rw [e, nI_clamp (by omega)]
  refine zz_icmp_ne (tgt := 23) dX10_areNear_16 (by decide) (fun h => ?_) (fun h => ?_)
  · refine zz_iconst (v := 0) (by decide) dX10_areNear_23 ?_
    refine zz_ireturn dX10_areNear_24 rfl (by first | rfl | decide | assumption) ?_
    exact hQ 0 (bo.zero fun q => h ((sh1_iff _ (by omega)).mpr (by rw [hE a ha b (by omega)]; exact q)))
  · skip
    refine zz_iconst (v := 1) (by decide) dX10_areNear_19 ?_
    refine zz_goto (tgt := 24) dX10_areNear_20 (by decide) ?_
    refine zz_ireturn dX10_areNear_24 rfl (by first | rfl | decide | assumption) ?_
    refine hQ 1 (bo.one ?_)
    rw [← hE a ha b (by omega)]
    exact (sh1_iff _ (by omega)).mp h
theorem sp_X10_mistake (d : Nat) (hO : OK M) {l A B on : Int32} (hon : on = 0 ∨ on = 1) (hn : ∀ j, j < 8 → n j ≤ 24) (hC : ∀ j, j < 8 → ML I j (n j) (kd j) (ag j) (E j) (sg j) (rw j))
    (h1 : ∀ j a b, j < 8 → a < n j → b < n j → a ≠ b → l = nI j → A = nI a → B = nI b → (¬ kd j = 0 → Q (some (.int (-4))) M I J) ∧ (kd j = 0 → (E j a b = decide (on = 1) → Q (some (.int 0)) M I J) ∧ (E j a b ≠ decide (on = 1) → ∀ I' : zz_I, FM j I I' → ML I' j (n j) (kd j) (ag j) (tg (E j) a b) (sg j) (fun _ _ => 0) → Q (some (.int 1)) M I' J)))
    (h2 : ¬ (∃ j a b, j < 8 ∧ a < n j ∧ b < n j ∧ a ≠ b ∧ l = nI j ∧ A = nI a ∧ B = nI b) → Q (some (.int (-2))) M I J) : zz_D mX10_mistake (d + 3) [.ref 259, .int l, .int A, .int B, .int on] M I J Q := by
  have hn' : ∀ j, j < 8 → I 260 j = nI (n j) ∧ n j ≤ 24 := fun j hj => ⟨(hC j hj).2.1, hn j hj⟩
  refine zz_D_of rfl (Nat.le_of_ble_eq_true rfl) ?_
  try dsimp only [zz_s1, zz_s2, zz_kill, zz_ent, zz_fl, List.set_cons_zero, List.set_cons_succ, List.getElem?_cons_zero, List.getElem?_cons_succ, Option.toList_some, Option.toList_none, List.cons_append, List.nil_append, List.append_nil, List.length_cons, List.length_nil, List.replicate_succ, List.replicate_zero, Nat.reduceAdd, Nat.reduceSub]
  refine zz_aload_n rfl dX10_mistake_0 ?_
  refine zz_iload_n rfl dX10_mistake_1 ?_
  refine zz_iload_n rfl dX10_mistake_2 ?_
  try dsimp only [zz_s1, zz_s2, zz_kill, zz_ent, zz_fl, List.set_cons_zero, List.set_cons_succ, List.getElem?_cons_zero, List.getElem?_cons_succ, Option.toList_some, Option.toList_none, List.cons_append, List.nil_append, List.append_nil, List.length_cons, List.length_nil, List.replicate_succ, List.replicate_zero, Nat.reduceAdd, Nat.reduceSub]
  refine zz_cV2 dX10_mistake_3 lX10_105 rfl (os_259 hO) rfl rfl (Nat.le_of_ble_eq_true rfl) (Nat.le_of_ble_eq_true rfl) ?_
  refine sp_X10_isLetter d hO hn' (fun r hr => ?_)
  try dsimp only [zz_s1, zz_s2, zz_kill, zz_ent, zz_fl, List.set_cons_zero, List.set_cons_succ, List.getElem?_cons_zero, List.getElem?_cons_succ, Option.toList_some, Option.toList_none, List.cons_append, List.nil_append, List.append_nil, List.length_cons, List.length_nil, List.replicate_succ, List.replicate_zero, Nat.reduceAdd, Nat.reduceSub]
  refine zz_if_eq (tgt := 23) dX10_mistake_6 (by decide) (fun h => ?_) (fun h => ?_)
  · refine zz_bipush (v := (-2)) (by decide) dX10_mistake_23 ?_
    refine zz_ireturn dX10_mistake_25 rfl (by first | rfl | decide | assumption) ?_
    exact h2 (fun ⟨j', a, b, q1, q2, q3, q4, q5, q6, q7⟩ => hr.f h ⟨j', a, q1, q2, q5, q6⟩)
  · skip
    refine zz_aload_n rfl dX10_mistake_9 ?_
    refine zz_iload_n rfl dX10_mistake_10 ?_
    refine zz_iload_n rfl dX10_mistake_11 ?_
    try dsimp only [zz_s1, zz_s2, zz_kill, zz_ent, zz_fl, List.set_cons_zero, List.set_cons_succ, List.getElem?_cons_zero, List.getElem?_cons_succ, Option.toList_some, Option.toList_none, List.cons_append, List.nil_append, List.append_nil, List.length_cons, List.length_nil, List.replicate_succ, List.replicate_zero, Nat.reduceAdd, Nat.reduceSub]
    refine zz_cV2 dX10_mistake_12 lX10_105 rfl (os_259 hO) rfl rfl (Nat.le_of_ble_eq_true rfl) (Nat.le_of_ble_eq_true rfl) ?_
    refine sp_X10_isLetter d hO hn' (fun r2 hr2 => ?_)
    try dsimp only [zz_s1, zz_s2, zz_kill, zz_ent, zz_fl, List.set_cons_zero, List.set_cons_succ, List.getElem?_cons_zero, List.getElem?_cons_succ, Option.toList_some, Option.toList_none, List.cons_append, List.nil_append, List.append_nil, List.length_cons, List.length_nil, List.replicate_succ, List.replicate_zero, Nat.reduceAdd, Nat.reduceSub]
    refine zz_if_eq (tgt := 23) dX10_mistake_15 (by decide) (fun h3 => ?_) (fun h3 => ?_)
    · refine zz_bipush (v := (-2)) (by decide) dX10_mistake_23 ?_
      refine zz_ireturn dX10_mistake_25 rfl (by first | rfl | decide | assumption) ?_
      exact h2 (fun ⟨j', a, b, q1, q2, q3, q4, q5, q6, q7⟩ => hr2.f h3 ⟨j', b, q1, q3, q5, q7⟩)
    · skip
      obtain ⟨j, a, hj, ha, rfl, rfl⟩ := hr.t h
      obtain ⟨j', b, hj', hb, e', rfl⟩ := hr2.t h3
      have : j = j' := (nI_eq (by omega) (by omega)).mp e'
      subst this
      have hc := hC j hj
      have hnj := hn j hj
      refine zz_iload_n rfl dX10_mistake_18 ?_
      refine zz_iload_n rfl dX10_mistake_19 ?_
      try dsimp only [zz_s1, zz_s2, zz_kill, zz_ent, zz_fl, List.set_cons_zero, List.set_cons_succ, List.getElem?_cons_zero, List.getElem?_cons_succ, Option.toList_some, Option.toList_none, List.cons_append, List.nil_append, List.append_nil, List.length_cons, List.length_nil, List.replicate_succ, List.replicate_zero, Nat.reduceAdd, Nat.reduceSub]
      refine zz_icmp_ne (tgt := 26) dX10_mistake_20 (by decide) (fun h4 => ?_) (fun h4 => ?_)
      · have hab : a ≠ b := fun q => h4 (by rw [q])
        obtain ⟨k1, k2⟩ := h1 j a b hj ha hb hab rfl rfl rfl
        refine zz_aload_n rfl dX10_mistake_26 ?_
        refine zz_getr dX10_mistake_27 fX10_13 (fun _ _ _ _ => rfl) (os_259 hO) (or_259_1 hO) ?_
        refine zz_iload_n rfl dX10_mistake_30 ?_
        refine zz_iald dX10_mistake_31 (os_261 hO) (vp_in_nI hj (by decide)) ?_
        try dsimp only [zz_s1, zz_s2, zz_kill, zz_ent, zz_fl, List.set_cons_zero, List.set_cons_succ, List.getElem?_cons_zero, List.getElem?_cons_succ, Option.toList_some, Option.toList_none, List.cons_append, List.nil_append, List.append_nil, List.length_cons, List.length_nil, List.replicate_succ, List.replicate_zero, Nat.reduceAdd, Nat.reduceSub]
        rw [nI_clamp (by omega), hc.1]
        refine zz_if_eq (tgt := 38) dX10_mistake_32 (by decide) (fun h5 => ?_) (fun h5 => ?_)
        · obtain ⟨k3, k4⟩ := k2 h5
          refine zz_aload_n rfl dX10_mistake_38 ?_
          refine zz_iload_n rfl dX10_mistake_39 ?_
          refine zz_iload_n rfl dX10_mistake_40 ?_
          refine zz_iload_n rfl dX10_mistake_41 ?_
          try dsimp only [zz_s1, zz_s2, zz_kill, zz_ent, zz_fl, List.set_cons_zero, List.set_cons_succ, List.getElem?_cons_zero, List.getElem?_cons_succ, Option.toList_some, Option.toList_none, List.cons_append, List.nil_append, List.append_nil, List.length_cons, List.length_nil, List.replicate_succ, List.replicate_zero, Nat.reduceAdd, Nat.reduceSub]
          refine zz_cV3 dX10_mistake_42 lX10_109 rfl (os_259 hO) rfl rfl (Nat.le_of_ble_eq_true rfl) (Nat.le_of_ble_eq_true rfl) ?_
          refine sp_X10_areNear (d + 2) hO hj (show a < 24 by omega) (show b < 24 by omega) hc.2.2.2.1 (fun r3 hr3 => ?_)
          try dsimp only [zz_s1, zz_s2, zz_kill, zz_ent, zz_fl, List.set_cons_zero, List.set_cons_succ, List.getElem?_cons_zero, List.getElem?_cons_succ, Option.toList_some, Option.toList_none, List.cons_append, List.nil_append, List.append_nil, List.length_cons, List.length_nil, List.replicate_succ, List.replicate_zero, Nat.reduceAdd, Nat.reduceSub]
          refine zz_iload rfl dX10_mistake_45 ?_
          try dsimp only [zz_s1, zz_s2, zz_kill, zz_ent, zz_fl, List.set_cons_zero, List.set_cons_succ, List.getElem?_cons_zero, List.getElem?_cons_succ, Option.toList_some, Option.toList_none, List.cons_append, List.nil_append, List.append_nil, List.length_cons, List.length_nil, List.replicate_succ, List.replicate_zero, Nat.reduceAdd, Nat.reduceSub]
          refine zz_icmp_ne (tgt := 52) dX10_mistake_47 (by decide) (fun h6 => ?_) (fun h6 => ?_)
          · have hne : E j a b ≠ decide (on = 1) := by
              intro q
              apply h6
              rcases hr3 with ⟨z1, z2⟩ | ⟨z1, z2⟩
              · rw [z2] at q
                rw [z1]
                exact (of_decide_eq_true q.symm).symm
              · rw [z1]
                rcases hon with z | z
                · exact z.symm
                · rw [z] at q
                  exact absurd q z2
            have ea : (24 : Int32) * nI j + nI a = nI (24 * j + a) := by rw [show (24 : Int32) = nI 24 from rfl, pk_mul, nI_add]
            have eb : (24 : Int32) * nI j + nI b = nI (24 * j + b) := by rw [show (24 : Int32) = nI 24 from rfl, pk_mul, nI_add]
            have va : vp_in ((24 : Int32) * nI j + nI a) 192 := by rw [ea]; exact vp_in_nI (by omega) (by decide)
            have vb : vp_in ((24 : Int32) * nI j + nI b) 192 := by rw [eb]; exact vp_in_nI (by omega) (by decide)
            refine zz_aload_n rfl dX10_mistake_52 ?_
            refine zz_getr dX10_mistake_53 fX10_16 (fun _ _ _ _ => rfl) (os_259 hO) (or_259_2 hO) ?_
            refine zz_bipush (v := 24) (by decide) dX10_mistake_56 ?_
            refine zz_iload_n rfl dX10_mistake_58 ?_
            refine zz_imul dX10_mistake_59 ?_
            refine zz_iload_n rfl dX10_mistake_60 ?_
            refine zz_iadd dX10_mistake_61 ?_
            refine zz_dup2 rfl rfl dX10_mistake_62 ?_
            refine zz_iald dX10_mistake_63 (os_262 hO) va ?_
            refine zz_iconst (v := 1) (by decide) dX10_mistake_64 ?_
            refine zz_iload_n rfl dX10_mistake_65 ?_
            refine zz_ishl dX10_mistake_66 ?_
            refine zz_ixor dX10_mistake_67 ?_
            refine zz_iast dX10_mistake_68 (os_262 hO) va ?_
            refine zz_aload_n rfl dX10_mistake_69 ?_
            refine zz_getr dX10_mistake_70 fX10_16 (fun _ _ _ _ => rfl) (os_259 hO) (or_259_2 hO) ?_
            refine zz_bipush (v := 24) (by decide) dX10_mistake_73 ?_
            refine zz_iload_n rfl dX10_mistake_75 ?_
            refine zz_imul dX10_mistake_76 ?_
            refine zz_iload_n rfl dX10_mistake_77 ?_
            refine zz_iadd dX10_mistake_78 ?_
            refine zz_dup2 rfl rfl dX10_mistake_79 ?_
            refine zz_iald dX10_mistake_80 (os_262 hO) vb ?_
            refine zz_iconst (v := 1) (by decide) dX10_mistake_81 ?_
            refine zz_iload_n rfl dX10_mistake_82 ?_
            refine zz_ishl dX10_mistake_83 ?_
            refine zz_ixor dX10_mistake_84 ?_
            refine zz_iast dX10_mistake_85 (os_262 hO) vb ?_
            refine zz_aload_n rfl dX10_mistake_86 ?_
            refine zz_iload_n rfl dX10_mistake_87 ?_
            try dsimp only [zz_s1, zz_s2, zz_kill, zz_ent, zz_fl, List.set_cons_zero, List.set_cons_succ, List.getElem?_cons_zero, List.getElem?_cons_succ, Option.toList_some, Option.toList_none, List.cons_append, List.nil_append, List.append_nil, List.length_cons, List.length_nil, List.replicate_succ, List.replicate_zero, Nat.reduceAdd, Nat.reduceSub]
            rw [ea, eb, nI_clamp (show 24 * j + a < 2 ^ 31 by omega), nI_clamp (show 24 * j + b < 2 ^ 31 by omega), zz_ui_at]
            refine zz_cV1 dX10_mistake_88 lX10_89 rfl (os_259 hO) rfl rfl (Nat.le_of_ble_eq_true rfl) (Nat.le_of_ble_eq_true rfl) ?_
            refine sp_X10_noRows (d + 2) hO hj (fun I2 g1 g2 g3 => ?_)
            try dsimp only [zz_s1, zz_s2, zz_kill, zz_ent, zz_fl, List.set_cons_zero, List.set_cons_succ, List.getElem?_cons_zero, List.getElem?_cons_succ, Option.toList_some, Option.toList_none, List.cons_append, List.nil_append, List.append_nil, List.length_cons, List.length_nil, List.replicate_succ, List.replicate_zero, Nat.reduceAdd, Nat.reduceSub]
            refine zz_iconst (v := 1) (by decide) dX10_mistake_91 ?_
            refine zz_ireturn dX10_mistake_92 rfl (by first | rfl | decide | assumption) ?_
            have eq : ∀ c, c ≠ 262 → c ≠ 264 → I2 c = I c := fun c q1 q2 => by rw [g1 c q2, zz_ui_ne _ _ _ q1, zz_ui_ne _ _ _ q1]
            have e260 : I2 262 = upd (upd (I 262) (24 * j + a) (I 262 (24 * j + a) ^^^ ((1 : Int32) <<< (nI b &&& 31)))) (24 * j + b) (upd (I 262) (24 * j + a) (I 262 (24 * j + a) ^^^ ((1 : Int32) <<< (nI b &&& 31))) (24 * j + b) ^^^ ((1 : Int32) <<< (nI a &&& 31))) := by
              rw [g1 262 (by decide), zz_ui_at, zz_ui_at]
            have e262 : ∀ q, (q < 150 * j ∨ 150 * j + 150 ≤ q) → I2 264 q = I 264 q := fun q hq => by rw [g2 q hq, zz_ui_ne _ _ _ (by decide), zz_ui_ne _ _ _ (by decide)]
            refine k4 hne I2 ⟨fun c hc => eq c (by omega) (by omega), fun l' q1 q2 => ⟨by rw [eq _ (by decide) (by decide)], by rw [eq _ (by decide) (by decide)], by rw [eq _ (by decide) (by decide)], fun x hx => ?_, fun x hx => by rw [eq _ (by decide) (by decide)], fun x hx => e262 _ (by omega)⟩⟩ ⟨by rw [eq _ (by decide) (by decide)]; exact hc.1, by rw [eq _ (by decide) (by decide)]; exact hc.2.1, by rw [eq _ (by decide) (by decide)]; exact hc.2.2.1, ?_, fun x hx => by rw [eq _ (by decide) (by decide)]; exact hc.2.2.2.2.1 x hx, fun x hx i hi => g3 _ (by omega)⟩
            · rw [e260, pk_un (by omega), pk_un (by omega)]
            · rw [e260]
              exact mt_bits hc.2.2.2.1 (by omega) (by omega) hab
          · skip
            refine zz_iconst (v := 0) (by decide) dX10_mistake_50 ?_
            refine zz_ireturn dX10_mistake_51 rfl (by first | rfl | decide | assumption) ?_
            refine k3 ?_
            rcases hr3 with ⟨z1, z2⟩ | ⟨z1, z2⟩
            · rw [z2, ← h6, z1]; rfl
            · rw [← h6, z1]
              cases hx : E j a b with
              | false => rfl
              | true => exact absurd hx z2
        · skip
          refine zz_bipush (v := (-4)) (by decide) dX10_mistake_35 ?_
          refine zz_ireturn dX10_mistake_37 rfl (by first | rfl | decide | assumption) ?_
          exact k1 h5
      · skip
        refine zz_bipush (v := (-2)) (by decide) dX10_mistake_23 ?_
        refine zz_ireturn dX10_mistake_25 rfl (by first | rfl | decide | assumption) ?_
        refine h2 (fun ⟨j', a', b', q1, q2, q3, q4, q5, q6, q7⟩ => q4 ?_)
        have x1 : a = a' := (nI_eq (by omega) (by have := hn j' q1; omega)).mp q6
        have x2 : b = b' := (nI_eq (by omega) (by have := hn j' q1; omega)).mp q7
        have x3 : a = b := (nI_eq (by omega) (by omega)).mp h4
        omega
end PMist

