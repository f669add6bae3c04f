/-! ===== feed ===== -/
/-- a list written into an array -/
def wr (f : Nat → Int32) (n : Nat) : List Int32 → Nat → Int32
  | [] => f
  | b :: bs => wr (upd f n b) (n + 1) bs
theorem wr_app (xs : List Int32) : ∀ (f : Nat → Int32) (n : Nat) (ys : List Int32), wr f n (xs ++ ys) = wr (wr f n xs) (n + xs.length) ys := by
  induction xs with
  | nil => intro f n ys; rfl
  | cons x xs ih =>
    intro f n ys
    show wr (upd f n x) (n + 1) (xs ++ ys) = wr (wr (upd f n x) (n + 1) xs) (n + (xs.length + 1)) ys
    rw [ih, Nat.add_assoc, Nat.add_comm 1]
theorem wr_rel {P : Int32 → Int32 → Prop} : ∀ (xs ys : List Int32) (f g : Nat → Int32) (n : Nat), xs.length = ys.length → (∀ i, i < n → P (f i) (g i)) → (∀ q ∈ xs.zip ys, P q.1 q.2) → ∀ i, i < n + xs.length → P (wr f n xs i) (wr g n ys i)
  | [], [], f, g, n, _, h, _, i, hi => h i hi
  | [], _ :: _, _, _, _, hl, _, _, _, _ => by cases hl
  | _ :: _, [], _, _, _, hl, _, _, _, _ => by cases hl
  | x :: xs, y :: ys, f, g, n, hl, h, hp, i, hi => by
    refine wr_rel xs ys (upd f n x) (upd g n y) (n + 1) (by simpa using hl) (fun j hj => ?_) (fun q hq => hp q (List.mem_cons_of_mem _ hq)) i (by simp only [List.length_cons] at hi; omega)
    by_cases e : j = n
    · subst e
      simpa [upd] using hp (x, y) (by simp)
    · rw [zz_upd_ne e, zz_upd_ne e]
      exact h j (by omega)
def cby (v : Int32) : List Int32 := [jv_ushr v 24 &&& 255, jv_ushr v 16 &&& 255, jv_ushr v 8 &&& 255, jv_ushr v 0 &&& 255]
def mby (v : Int32) : List Int32 := [jv_b (jv_b (v >>> ((24 : Int32) &&& 31))), jv_b (jv_b (v >>> ((16 : Int32) &&& 31))), jv_b (jv_b (v >>> ((8 : Int32) &&& 31))), jv_b (jv_b (v >>> ((0 : Int32) &&& 31)))]
/-- a byte of the class's tape and the reference's -/
def tby (c m : Int32) : Prop := c &&& 255 = c ∧ m = jv_b c
theorem b_b (x : Int32) : jv_b (jv_b x) = jv_b x := by simp [jv_b]
theorem b_low (x : Int32) : jv_b (x &&& 255) = jv_b x := by unfold jv_b; rw [fa_byte_low]
theorem by_one (v : Int32) (n : Nat) (hn : n ≤ 24) : tby (jv_ushr v (nI n) &&& 255) (jv_b (jv_b (v >>> (nI n &&& 31)))) := by
  refine ⟨?_, ?_⟩
  · apply b_ext
    intro i hi
    rw [b_and, b_and, b_255]
    cases decide (i < 8) <;> simp
  · rw [b_b, b_low, ← b_low (v >>> (nI n &&& 31)), ← b_low (jv_ushr v (nI n))]
    congr 1
    apply b_ext
    intro i hi
    rw [b_and, b_and, b_255, b_sshr n (by omega) v hi]
    rw [show bt (jv_ushr v (nI n)) i = bt v (n + i) from b_ushr n (by omega) v i]
    by_cases g : i < 8
    · rw [if_pos (by omega)]
    · simp [g]
theorem by_all (v : Int32) : ∀ q ∈ (cby v).zip (mby v), tby q.1 q.2 := by
  intro q hq
  simp only [cby, mby, List.zip_cons_cons, List.zip_nil_right, List.mem_cons, List.not_mem_nil, or_false] at hq
  rcases hq with rfl | rfl | rfl | rfl
  · exact by_one v 24 (by decide)
  · exact by_one v 16 (by decide)
  · exact by_one v 8 (by decide)
  · exact by_one v 0 (by decide)
section PFeed
variable {M : zz_M} {I : zz_I} {J : zz_J} {Q : zz_Q}
theorem sp_X7_push (d : Nat) (hO : OK M) {v : Int32} {n : Nat} (hn : I 2 1 = nI n) (hn2 : n + 4 ≤ 600) (hQ : ∀ I' : zz_I, (∀ c, c ≠ 2 → c ≠ 3 → I' c = I c) → I' 2 = upd (I 2) 1 (nI (n + 4)) → I' 3 = wr (I 3) n (cby v) → Q none M I' J) : zz_D mX7_push d [.ref 2, .int v] M I J Q := by
  refine zz_D_of rfl (Nat.le_of_ble_eq_true rfl) ?_
  try dsimp only [zz_s1, zz_s2, zz_kill, zz_ent, zz_fl, List.set_cons_zero, List.set_cons_succ, List.getElem?_cons_zero, List.getElem?_cons_succ, Option.toList_some, Option.toList_none, List.cons_append, List.nil_append, List.append_nil, List.length_cons, List.length_nil, List.replicate_succ, List.replicate_zero, Nat.reduceAdd, Nat.reduceSub]
  refine zz_bipush (v := 24) (by decide) dX7_push_0 ?_
  refine zz_istore_n dX7_push_2 (by decide) ?_
  try dsimp only [zz_s1, zz_s2, zz_kill, zz_ent, zz_fl, List.set_cons_zero, List.set_cons_succ, List.getElem?_cons_zero, List.getElem?_cons_succ, Option.toList_some, Option.toList_none, List.cons_append, List.nil_append, List.append_nil, List.length_cons, List.length_nil, List.replicate_succ, List.replicate_zero, Nat.reduceAdd, Nat.reduceSub]
  have it : ∀ (s : Int32) (n : Nat) (Ix : zz_I), ¬ s < 0 → Ix 2 1 = nI n → n < 600 → zz_G mX7_push d 0 3 [some (.ref 2), some (.int v), some (.int (s + (-8)))] [] M (zz_ui (zz_ui Ix 3 n (jv_ushr v s &&& 255)) 2 1 (nI (n + 1))) J Q → zz_G mX7_push d 0 3 [some (.ref 2), some (.int v), some (.int s)] [] M Ix J Q := by
    intro s n Ix hs hx hn kk
    refine zz_iload_n rfl dX7_push_3 ?_
    try dsimp only [zz_s1, zz_s2, zz_kill, zz_ent, zz_fl, List.set_cons_zero, List.set_cons_succ, List.getElem?_cons_zero, List.getElem?_cons_succ, Option.toList_some, Option.toList_none, List.cons_append, List.nil_append, List.append_nil, List.length_cons, List.length_nil, List.replicate_succ, List.replicate_zero, Nat.reduceAdd, Nat.reduceSub]
    refine zz_if_lt (tgt := 49) dX7_push_4 (by decide) (fun h => ?_) (fun h => ?_)
    · exact absurd h hs
    · skip
      refine zz_aload_n rfl dX7_push_7 ?_
      refine zz_geti dX7_push_8 fX7_13 rfl (os_2 hO) ?_
      refine zz_sipush (v := 600) (by decide) dX7_push_11 ?_
      try dsimp only [zz_s1, zz_s2, zz_kill, zz_ent, zz_fl, List.set_cons_zero, List.set_cons_succ, List.getElem?_cons_zero, List.getElem?_cons_succ, Option.toList_some, Option.toList_none, List.cons_append, List.nil_append, List.append_nil, List.length_cons, List.length_nil, List.replicate_succ, List.replicate_zero, Nat.reduceAdd, Nat.reduceSub]
      rw [hx]
      refine zz_icmp_ge (tgt := 43) dX7_push_14 (by decide) (fun h2 => ?_) (fun h2 => ?_)
      · exact absurd h2 (nI_ge (a := n) (b := 600) hn (by decide))
      · skip
        refine zz_aload_n rfl dX7_push_17 ?_
        refine zz_getr dX7_push_18 fX7_9 (fun _ _ _ _ => rfl) (os_2 hO) (or_2_0 hO) ?_
        refine zz_aload_n rfl dX7_push_21 ?_
        refine zz_geti dX7_push_22 fX7_13 rfl (os_2 hO) ?_
        refine zz_iload_n rfl dX7_push_25 ?_
        refine zz_iload_n rfl dX7_push_26 ?_
        refine zz_iushr dX7_push_27 ?_
        refine zz_sipush (v := 255) (by decide) dX7_push_28 ?_
        refine zz_iand dX7_push_31 ?_
        refine zz_iast dX7_push_32 (os_3 hO) (by rw [hx]; exact vp_in_nI hn (by decide)) ?_
        refine zz_aload_n rfl dX7_push_33 ?_
        refine zz_dup rfl dX7_push_34 ?_
        refine zz_geti dX7_push_35 fX7_13 rfl (os_2 hO) ?_
        refine zz_iconst (v := 1) (by decide) dX7_push_38 ?_
        refine zz_iadd dX7_push_39 ?_
        refine zz_puti dX7_push_40 fX7_13 rfl (fun q h => by cases h; rfl) (os_2 hO) ?_
        refine zz_iinc dX7_push_43 rfl (congrArg (HAdd.hAdd _) (show Int32.ofInt (-8) = (-8) by decide)) (by decide) ?_
        refine zz_goto (tgt := 3) dX7_push_46 (by decide) ?_
        try dsimp only [zz_s1, zz_s2, zz_kill, zz_ent, zz_fl, List.set_cons_zero, List.set_cons_succ, List.getElem?_cons_zero, List.getElem?_cons_succ, Option.toList_some, Option.toList_none, List.cons_append, List.nil_append, List.append_nil, List.length_cons, List.length_nil, List.replicate_succ, List.replicate_zero, Nat.reduceAdd, Nat.reduceSub]
        rw [hx, nI_clamp (by omega), zz_ui_ne _ _ _ (by decide), hx, nI_1]
        exact kk
  refine it 24 n I (by decide) hn (by omega) ?_
  rw [show (24 : Int32) + (-8) = 16 by decide]
  refine it 16 (n + 1) _ (by decide) (by rw [zz_ui_at]; simp [upd]) (by omega) ?_
  rw [show (16 : Int32) + (-8) = 8 by decide]
  refine it 8 (n + 2) _ (by decide) (by rw [zz_ui_at]; simp [upd]) (by omega) ?_
  rw [show (8 : Int32) + (-8) = 0 by decide]
  refine it 0 (n + 3) _ (by decide) (by rw [zz_ui_at]; simp [upd]) (by omega) ?_
  rw [show (0 : Int32) + (-8) = -8 by decide]
  refine zz_iload_n rfl dX7_push_3 ?_
  try dsimp only [zz_s1, zz_s2, zz_kill, zz_ent, zz_fl, List.set_cons_zero, List.set_cons_succ, List.getElem?_cons_zero, List.getElem?_cons_succ, Option.toList_some, Option.toList_none, List.cons_append, List.nil_append, List.append_nil, List.length_cons, List.length_nil, List.replicate_succ, List.replicate_zero, Nat.reduceAdd, Nat.reduceSub]
  refine zz_if_lt (tgt := 49) dX7_push_4 (by decide) (fun h => ?_) (fun h => ?_)
  · refine zz_return dX7_push_49 rfl ?_
    refine hQ _ (fun c h1 h2 => ?_) ?_ ?_
    · simp only [zz_ui_ne _ _ _ h1, zz_ui_ne _ _ _ h2]
    · simp only [zz_ui_at, zz_ui_ne _ _ _ (show (2 : Nat) ≠ 3 by decide), fa_upd_twice]
    · simp only [zz_ui_at, zz_ui_ne _ _ _ (show (3 : Nat) ≠ 2 by decide)]
      rfl
  · exact absurd (by decide) h
theorem sp_X10_lay (d : Nat) (hO : OK M) {v : Int32} {n : Nat} (hn : I 259 7 = nI n) (hn2 : n + 4 ≤ 600) (hQ : ∀ I' : zz_I, (∀ c, c ≠ 259 → c ≠ 266 → I' c = I c) → I' 259 = upd (I 259) 7 (nI (n + 4)) → I' 266 = wr (I 266) n (mby v) → Q none M I' J) : zz_D mX10_lay d [.ref 259, .int v] M I J Q := by
  refine zz_D_of rfl (Nat.le_of_ble_eq_true rfl) ?_
  try dsimp only [zz_s1, zz_s2, zz_kill, zz_ent, zz_fl, List.set_cons_zero, List.set_cons_succ, List.getElem?_cons_zero, List.getElem?_cons_succ, Option.toList_some, Option.toList_none, List.cons_append, List.nil_append, List.append_nil, List.length_cons, List.length_nil, List.replicate_succ, List.replicate_zero, Nat.reduceAdd, Nat.reduceSub]
  refine zz_bipush (v := 24) (by decide) dX10_lay_0 ?_
  refine zz_istore_n dX10_lay_2 (by decide) ?_
  try dsimp only [zz_s1, zz_s2, zz_kill, zz_ent, zz_fl, List.set_cons_zero, List.set_cons_succ, List.getElem?_cons_zero, List.getElem?_cons_succ, Option.toList_some, Option.toList_none, List.cons_append, List.nil_append, List.append_nil, List.length_cons, List.length_nil, List.replicate_succ, List.replicate_zero, Nat.reduceAdd, Nat.reduceSub]
  have it : ∀ (s : Int32) (n : Nat) (Ix : zz_I), ¬ s < 0 → Ix 259 7 = nI n → n < 600 → zz_G mX10_lay d 0 3 [some (.ref 259), some (.int v), some (.int (s + (-8)))] [] M (zz_ui (zz_ui Ix 266 n (jv_b (jv_b (v >>> (s &&& 31))))) 259 7 (nI (n + 1))) J Q → zz_G mX10_lay d 0 3 [some (.ref 259), some (.int v), some (.int s)] [] M Ix J Q := by
    intro s n Ix hs hx hn kk
    refine zz_iload_n rfl dX10_lay_3 ?_
    try dsimp only [zz_s1, zz_s2, zz_kill, zz_ent, zz_fl, List.set_cons_zero, List.set_cons_succ, List.getElem?_cons_zero, List.getElem?_cons_succ, Option.toList_some, Option.toList_none, List.cons_append, List.nil_append, List.append_nil, List.length_cons, List.length_nil, List.replicate_succ, List.replicate_zero, Nat.reduceAdd, Nat.reduceSub]
    refine zz_if_lt (tgt := 36) dX10_lay_4 (by decide) (fun h => ?_) (fun h => ?_)
    · exact absurd h hs
    · skip
      refine zz_aload_n rfl dX10_lay_7 ?_
      refine zz_getr dX10_lay_8 fX10_28 (fun _ _ _ _ => rfl) (os_259 hO) (or_259_6 hO) ?_
      refine zz_aload_n rfl dX10_lay_11 ?_
      refine zz_geti dX10_lay_12 fX10_93 rfl (os_259 hO) ?_
      refine zz_iload_n rfl dX10_lay_15 ?_
      refine zz_iload_n rfl dX10_lay_16 ?_
      refine zz_ishr dX10_lay_17 ?_
      refine zz_i2b dX10_lay_18 ?_
      refine zz_bast dX10_lay_19 (os_266 hO) (by rw [hx]; exact vp_in_nI hn (by decide)) ?_
      refine zz_aload_n rfl dX10_lay_20 ?_
      refine zz_dup rfl dX10_lay_21 ?_
      refine zz_geti dX10_lay_22 fX10_93 rfl (os_259 hO) ?_
      refine zz_iconst (v := 1) (by decide) dX10_lay_25 ?_
      refine zz_iadd dX10_lay_26 ?_
      refine zz_puti dX10_lay_27 fX10_93 rfl (fun q h => by cases h; rfl) (os_259 hO) ?_
      refine zz_iinc dX10_lay_30 rfl (congrArg (HAdd.hAdd _) (show Int32.ofInt (-8) = (-8) by decide)) (by decide) ?_
      refine zz_goto (tgt := 3) dX10_lay_33 (by decide) ?_
      try dsimp only [zz_s1, zz_s2, zz_kill, zz_ent, zz_fl, List.set_cons_zero, List.set_cons_succ, List.getElem?_cons_zero, List.getElem?_cons_succ, Option.toList_some, Option.toList_none, List.cons_append, List.nil_append, List.append_nil, List.length_cons, List.length_nil, List.replicate_succ, List.replicate_zero, Nat.reduceAdd, Nat.reduceSub]
      rw [hx, nI_clamp (by omega), zz_ui_ne _ _ _ (by decide), hx, nI_1]
      exact kk
  refine it 24 n I (by decide) hn (by omega) ?_
  rw [show (24 : Int32) + (-8) = 16 by decide]
  refine it 16 (n + 1) _ (by decide) (by rw [zz_ui_at]; simp [upd]) (by omega) ?_
  rw [show (16 : Int32) + (-8) = 8 by decide]
  refine it 8 (n + 2) _ (by decide) (by rw [zz_ui_at]; simp [upd]) (by omega) ?_
  rw [show (8 : Int32) + (-8) = 0 by decide]
  refine it 0 (n + 3) _ (by decide) (by rw [zz_ui_at]; simp [upd]) (by omega) ?_
  rw [show (0 : Int32) + (-8) = -8 by decide]
  refine zz_iload_n rfl dX10_lay_3 ?_
  try dsimp only [zz_s1, zz_s2, zz_kill, zz_ent, zz_fl, List.set_cons_zero, List.set_cons_succ, List.getElem?_cons_zero, List.getElem?_cons_succ, Option.toList_some, Option.toList_none, List.cons_append, List.nil_append, List.append_nil, List.length_cons, List.length_nil, List.replicate_succ, List.replicate_zero, Nat.reduceAdd, Nat.reduceSub]
  refine zz_if_lt (tgt := 36) dX10_lay_4 (by decide) (fun h => ?_) (fun h => ?_)
  · refine zz_return dX10_lay_36 rfl ?_
    refine hQ _ (fun c h1 h2 => ?_) ?_ ?_
    · simp only [zz_ui_ne _ _ _ h1, zz_ui_ne _ _ _ h2]
    · simp only [zz_ui_at, zz_ui_ne _ _ _ (show (259 : Nat) ≠ 266 by decide), fa_upd_twice]
    · simp only [zz_ui_at, zz_ui_ne _ _ _ (show (266 : Nat) ≠ 259 by decide)]
      rfl
  · exact absurd (by decide) h
theorem sp_X9_feed (d : Nat) (hO : OK M) {a b c e f : Int32} {n : Nat} (hn : I 2 1 = nI n) (hn2 : n ≤ 600) (h1 : n + 20 ≤ 600 → ∀ I' : zz_I, (∀ c, c ≠ 2 → c ≠ 3 → I' c = I c) → I' 2 = upd (I 2) 1 (nI (n + 20)) → I' 3 = wr (I 3) n (cby a ++ (cby b ++ (cby c ++ (cby e ++ cby f)))) → Q (some (.int (nI (n + 20)))) M I' J) (h2 : ¬ n + 20 ≤ 600 → Q (some (.int (-3))) M I J) : zz_D mX9_feed (d + 1) [.ref 1, .int a, .int b, .int c, .int e, .int f] M I J Q := by
  refine zz_D_of rfl (Nat.le_of_ble_eq_true rfl) ?_
  try dsimp only [zz_s1, zz_s2, zz_kill, zz_ent, zz_fl, List.set_cons_zero, List.set_cons_succ, List.getElem?_cons_zero, List.getElem?_cons_succ, Option.toList_some, Option.toList_none, List.cons_append, List.nil_append, List.append_nil, List.length_cons, List.length_nil, List.replicate_succ, List.replicate_zero, Nat.reduceAdd, Nat.reduceSub]
  refine zz_aload_n rfl dX9_feed_0 ?_
  refine zz_getr dX9_feed_1 fX9_10 (fun _ _ _ _ => rfl) (os_1 hO) (or_1_0 hO) ?_
  refine zz_bipush (v := 20) (by decide) dX9_feed_4 ?_
  try dsimp only [zz_s1, zz_s2, zz_kill, zz_ent, zz_fl, List.set_cons_zero, List.set_cons_succ, List.getElem?_cons_zero, List.getElem?_cons_succ, Option.toList_some, Option.toList_none, List.cons_append, List.nil_append, List.append_nil, List.length_cons, List.length_nil, List.replicate_succ, List.replicate_zero, Nat.reduceAdd, Nat.reduceSub]
  refine zz_cV1 dX9_feed_6 lX9_89 rfl (os_2 hO) rfl rfl (Nat.le_of_ble_eq_true rfl) (Nat.le_of_ble_eq_true rfl) ?_
  refine sp_X7_hasRoomFor d hO (fun r hr => ?_)
  try dsimp only [zz_s1, zz_s2, zz_kill, zz_ent, zz_fl, List.set_cons_zero, List.set_cons_succ, List.getElem?_cons_zero, List.getElem?_cons_succ, Option.toList_some, Option.toList_none, List.cons_append, List.nil_append, List.append_nil, List.length_cons, List.length_nil, List.replicate_succ, List.replicate_zero, Nat.reduceAdd, Nat.reduceSub]
  have hr : bo r (n + 20 ≤ 600) := bo.iff hr (by
    rw [hn, show (20 : Int32) = nI 20 from rfl, show (600 : Int32) = nI 600 from rfl, nI_add, nI_leI (by omega) (by omega)])
  refine zz_if_ne (tgt := 15) dX9_feed_9 (by decide) (fun h => ?_) (fun h => ?_)
  · have hroom := hr.t h
    refine zz_aload_n rfl dX9_feed_15 ?_
    refine zz_getr dX9_feed_16 fX9_10 (fun _ _ _ _ => rfl) (os_1 hO) (or_1_0 hO) ?_
    refine zz_iload_n rfl dX9_feed_19 ?_
    try dsimp only [zz_s1, zz_s2, zz_kill, zz_ent, zz_fl, List.set_cons_zero, List.set_cons_succ, List.getElem?_cons_zero, List.getElem?_cons_succ, Option.toList_some, Option.toList_none, List.cons_append, List.nil_append, List.append_nil, List.length_cons, List.length_nil, List.replicate_succ, List.replicate_zero, Nat.reduceAdd, Nat.reduceSub]
    refine zz_cV1 dX9_feed_20 lX9_93 rfl (os_2 hO) rfl rfl (Nat.le_of_ble_eq_true rfl) (Nat.le_of_ble_eq_true rfl) ?_
    refine sp_X7_push d hO hn (by omega) (fun I1 a1 a2 a3 => ?_)
    try dsimp only [zz_s1, zz_s2, zz_kill, zz_ent, zz_fl, List.set_cons_zero, List.set_cons_succ, List.getElem?_cons_zero, List.getElem?_cons_succ, Option.toList_some, Option.toList_none, List.cons_append, List.nil_append, List.append_nil, List.length_cons, List.length_nil, List.replicate_succ, List.replicate_zero, Nat.reduceAdd, Nat.reduceSub]
    have e1 : I1 2 1 = nI (n + 4) := by rw [a2]; simp [upd]
    refine zz_aload_n rfl dX9_feed_23 ?_
    refine zz_getr dX9_feed_24 fX9_10 (fun _ _ _ _ => rfl) (os_1 hO) (or_1_0 hO) ?_
    refine zz_iload_n rfl dX9_feed_27 ?_
    try dsimp only [zz_s1, zz_s2, zz_kill, zz_ent, zz_fl, List.set_cons_zero, List.set_cons_succ, List.getElem?_cons_zero, List.getElem?_cons_succ, Option.toList_some, Option.toList_none, List.cons_append, List.nil_append, List.append_nil, List.length_cons, List.length_nil, List.replicate_succ, List.replicate_zero, Nat.reduceAdd, Nat.reduceSub]
    refine zz_cV1 dX9_feed_28 lX9_93 rfl (os_2 hO) rfl rfl (Nat.le_of_ble_eq_true rfl) (Nat.le_of_ble_eq_true rfl) ?_
    refine sp_X7_push d hO e1 (by omega) (fun I2 b1 b2 b3 => ?_)
    try dsimp only [zz_s1, zz_s2, zz_kill, zz_ent, zz_fl, List.set_cons_zero, List.set_cons_succ, List.getElem?_cons_zero, List.getElem?_cons_succ, Option.toList_some, Option.toList_none, List.cons_append, List.nil_append, List.append_nil, List.length_cons, List.length_nil, List.replicate_succ, List.replicate_zero, Nat.reduceAdd, Nat.reduceSub]
    have e2 : I2 2 1 = nI (n + 8) := by rw [b2]; simp [upd]
    refine zz_aload_n rfl dX9_feed_31 ?_
    refine zz_getr dX9_feed_32 fX9_10 (fun _ _ _ _ => rfl) (os_1 hO) (or_1_0 hO) ?_
    refine zz_iload_n rfl dX9_feed_35 ?_
    try dsimp only [zz_s1, zz_s2, zz_kill, zz_ent, zz_fl, List.set_cons_zero, List.set_cons_succ, List.getElem?_cons_zero, List.getElem?_cons_succ, Option.toList_some, Option.toList_none, List.cons_append, List.nil_append, List.append_nil, List.length_cons, List.length_nil, List.replicate_succ, List.replicate_zero, Nat.reduceAdd, Nat.reduceSub]
    refine zz_cV1 dX9_feed_36 lX9_93 rfl (os_2 hO) rfl rfl (Nat.le_of_ble_eq_true rfl) (Nat.le_of_ble_eq_true rfl) ?_
    refine sp_X7_push d hO e2 (by omega) (fun I3 c1 c2 c3 => ?_)
    try dsimp only [zz_s1, zz_s2, zz_kill, zz_ent, zz_fl, List.set_cons_zero, List.set_cons_succ, List.getElem?_cons_zero, List.getElem?_cons_succ, Option.toList_some, Option.toList_none, List.cons_append, List.nil_append, List.append_nil, List.length_cons, List.length_nil, List.replicate_succ, List.replicate_zero, Nat.reduceAdd, Nat.reduceSub]
    have e3 : I3 2 1 = nI (n + 12) := by rw [c2]; simp [upd]
    refine zz_aload_n rfl dX9_feed_39 ?_
    refine zz_getr dX9_feed_40 fX9_10 (fun _ _ _ _ => rfl) (os_1 hO) (or_1_0 hO) ?_
    refine zz_iload rfl dX9_feed_43 ?_
    try dsimp only [zz_s1, zz_s2, zz_kill, zz_ent, zz_fl, List.set_cons_zero, List.set_cons_succ, List.getElem?_cons_zero, List.getElem?_cons_succ, Option.toList_some, Option.toList_none, List.cons_append, List.nil_append, List.append_nil, List.length_cons, List.length_nil, List.replicate_succ, List.replicate_zero, Nat.reduceAdd, Nat.reduceSub]
    refine zz_cV1 dX9_feed_45 lX9_93 rfl (os_2 hO) rfl rfl (Nat.le_of_ble_eq_true rfl) (Nat.le_of_ble_eq_true rfl) ?_
    refine sp_X7_push d hO e3 (by omega) (fun I4 d1 d2 d3 => ?_)
    try dsimp only [zz_s1, zz_s2, zz_kill, zz_ent, zz_fl, List.set_cons_zero, List.set_cons_succ, List.getElem?_cons_zero, List.getElem?_cons_succ, Option.toList_some, Option.toList_none, List.cons_append, List.nil_append, List.append_nil, List.length_cons, List.length_nil, List.replicate_succ, List.replicate_zero, Nat.reduceAdd, Nat.reduceSub]
    have e4 : I4 2 1 = nI (n + 16) := by rw [d2]; simp [upd]
    refine zz_aload_n rfl dX9_feed_48 ?_
    refine zz_getr dX9_feed_49 fX9_10 (fun _ _ _ _ => rfl) (os_1 hO) (or_1_0 hO) ?_
    refine zz_iload rfl dX9_feed_52 ?_
    try dsimp only [zz_s1, zz_s2, zz_kill, zz_ent, zz_fl, List.set_cons_zero, List.set_cons_succ, List.getElem?_cons_zero, List.getElem?_cons_succ, Option.toList_some, Option.toList_none, List.cons_append, List.nil_append, List.append_nil, List.length_cons, List.length_nil, List.replicate_succ, List.replicate_zero, Nat.reduceAdd, Nat.reduceSub]
    refine zz_cV1 dX9_feed_54 lX9_93 rfl (os_2 hO) rfl rfl (Nat.le_of_ble_eq_true rfl) (Nat.le_of_ble_eq_true rfl) ?_
    refine sp_X7_push d hO e4 (by omega) (fun I5 f1 f2 f3 => ?_)
    try dsimp only [zz_s1, zz_s2, zz_kill, zz_ent, zz_fl, List.set_cons_zero, List.set_cons_succ, List.getElem?_cons_zero, List.getElem?_cons_succ, Option.toList_some, Option.toList_none, List.cons_append, List.nil_append, List.append_nil, List.length_cons, List.length_nil, List.replicate_succ, List.replicate_zero, Nat.reduceAdd, Nat.reduceSub]
    have e5 : I5 2 1 = nI (n + 20) := by rw [f2]; simp [upd]
    refine zz_aload_n rfl dX9_feed_57 ?_
    refine zz_getr dX9_feed_58 fX9_10 (fun _ _ _ _ => rfl) (os_1 hO) (or_1_0 hO) ?_
    refine zz_geti dX9_feed_61 fX9_97 rfl (os_2 hO) ?_
    refine zz_ireturn dX9_feed_64 rfl (by first | rfl | decide | assumption) ?_
    rw [e5]
    refine h1 hroom I5 (fun c q1 q2 => ?_) ?_ ?_
    · rw [f1 c q1 q2, d1 c q1 q2, c1 c q1 q2, b1 c q1 q2, a1 c q1 q2]
    · rw [f2, d2, c2, b2, a2]
      simp only [fa_upd_twice]
    · rw [f3, d3, c3, b3, a3, wr_app, wr_app, wr_app, wr_app]
      rfl
  · skip
    refine zz_bipush (v := (-3)) (by decide) dX9_feed_12 ?_
    refine zz_ireturn dX9_feed_14 rfl (by first | rfl | decide | assumption) ?_
    exact h2 (hr.f h)
theorem sp_X10_feed (d : Nat) (hO : OK M) {a b c e f : Int32} {n : Nat} (hn : I 259 7 = nI n) (hn2 : n ≤ 600) (h1 : n + 20 ≤ 600 → ∀ I' : zz_I, (∀ c, c ≠ 259 → c ≠ 266 → I' c = I c) → I' 259 = upd (I 259) 7 (nI (n + 20)) → I' 266 = wr (I 266) n (mby a ++ (mby b ++ (mby c ++ (mby e ++ mby f)))) → Q (some (.int (nI (n + 20)))) M I' J) (h2 : ¬ n + 20 ≤ 600 → Q (some (.int (-3))) M I J) : zz_D mX10_feed (d + 1) [.ref 259, .int a, .int b, .int c, .int e, .int f] M I J Q := by
  refine zz_D_of rfl (Nat.le_of_ble_eq_true rfl) ?_
  try dsimp only [zz_s1, zz_s2, zz_kill, zz_ent, zz_fl, List.set_cons_zero, List.set_cons_succ, List.getElem?_cons_zero, List.getElem?_cons_succ, Option.toList_some, Option.toList_none, List.cons_append, List.nil_append, List.append_nil, List.length_cons, List.length_nil, List.replicate_succ, List.replicate_zero, Nat.reduceAdd, Nat.reduceSub]
  refine zz_aload_n rfl dX10_feed_0 ?_
  refine zz_geti dX10_feed_1 fX10_93 rfl (os_259 hO) ?_
  refine zz_bipush (v := 20) (by decide) dX10_feed_4 ?_
  refine zz_iadd dX10_feed_6 ?_
  refine zz_sipush (v := 600) (by decide) dX10_feed_7 ?_
  try dsimp only [zz_s1, zz_s2, zz_kill, zz_ent, zz_fl, List.set_cons_zero, List.set_cons_succ, List.getElem?_cons_zero, List.getElem?_cons_succ, Option.toList_some, Option.toList_none, List.cons_append, List.nil_append, List.append_nil, List.length_cons, List.length_nil, List.replicate_succ, List.replicate_zero, Nat.reduceAdd, Nat.reduceSub]
  rw [hn, show (20 : Int32) = nI 20 from rfl, show (600 : Int32) = nI 600 from rfl, nI_add]
  refine zz_icmp_le (tgt := 16) dX10_feed_10 (by decide) (fun h => ?_) (fun h => ?_)
  · have hroom : n + 20 ≤ 600 := (nI_leI (by omega) (by omega)).mp h
    refine zz_aload_n rfl dX10_feed_16 ?_
    refine zz_iload_n rfl dX10_feed_17 ?_
    try dsimp only [zz_s1, zz_s2, zz_kill, zz_ent, zz_fl, List.set_cons_zero, List.set_cons_succ, List.getElem?_cons_zero, List.getElem?_cons_succ, Option.toList_some, Option.toList_none, List.cons_append, List.nil_append, List.append_nil, List.length_cons, List.length_nil, List.replicate_succ, List.replicate_zero, Nat.reduceAdd, Nat.reduceSub]
    refine zz_cV1 dX10_feed_18 lX10_96 rfl (os_259 hO) rfl rfl (Nat.le_of_ble_eq_true rfl) (Nat.le_of_ble_eq_true rfl) ?_
    refine sp_X10_lay d hO hn (by omega) (fun I1 a1 a2 a3 => ?_)
    try dsimp only [zz_s1, zz_s2, zz_kill, zz_ent, zz_fl, List.set_cons_zero, List.set_cons_succ, List.getElem?_cons_zero, List.getElem?_cons_succ, Option.toList_some, Option.toList_none, List.cons_append, List.nil_append, List.append_nil, List.length_cons, List.length_nil, List.replicate_succ, List.replicate_zero, Nat.reduceAdd, Nat.reduceSub]
    have e1 : I1 259 7 = nI (n + 4) := by rw [a2]; simp [upd]
    refine zz_aload_n rfl dX10_feed_21 ?_
    refine zz_iload_n rfl dX10_feed_22 ?_
    try dsimp only [zz_s1, zz_s2, zz_kill, zz_ent, zz_fl, List.set_cons_zero, List.set_cons_succ, List.getElem?_cons_zero, List.getElem?_cons_succ, Option.toList_some, Option.toList_none, List.cons_append, List.nil_append, List.append_nil, List.length_cons, List.length_nil, List.replicate_succ, List.replicate_zero, Nat.reduceAdd, Nat.reduceSub]
    refine zz_cV1 dX10_feed_23 lX10_96 rfl (os_259 hO) rfl rfl (Nat.le_of_ble_eq_true rfl) (Nat.le_of_ble_eq_true rfl) ?_
    refine sp_X10_lay d hO e1 (by omega) (fun I2 b1 b2 b3 => ?_)
    try dsimp only [zz_s1, zz_s2, zz_kill, zz_ent, zz_fl, List.set_cons_zero, List.set_cons_succ, List.getElem?_cons_zero, List.getElem?_cons_succ, Option.toList_some, Option.toList_none, List.cons_append, List.nil_append, List.append_nil, List.length_cons, List.length_nil, List.replicate_succ, List.replicate_zero, Nat.reduceAdd, Nat.reduceSub]
    have e2 : I2 259 7 = nI (n + 8) := by rw [b2]; simp [upd]
    refine zz_aload_n rfl dX10_feed_26 ?_
    refine zz_iload_n rfl dX10_feed_27 ?_
    try dsimp only [zz_s1, zz_s2, zz_kill, zz_ent, zz_fl, List.set_cons_zero, List.set_cons_succ, List.getElem?_cons_zero, List.getElem?_cons_succ, Option.toList_some, Option.toList_none, List.cons_append, List.nil_append, List.append_nil, List.length_cons, List.length_nil, List.replicate_succ, List.replicate_zero, Nat.reduceAdd, Nat.reduceSub]
    refine zz_cV1 dX10_feed_28 lX10_96 rfl (os_259 hO) rfl rfl (Nat.le_of_ble_eq_true rfl) (Nat.le_of_ble_eq_true rfl) ?_
    refine sp_X10_lay d hO e2 (by omega) (fun I3 c1 c2 c3 => ?_)
    try dsimp only [zz_s1, zz_s2, zz_kill, zz_ent, zz_fl, List.set_cons_zero, List.set_cons_succ, List.getElem?_cons_zero, List.getElem?_cons_succ, Option.toList_some, Option.toList_none, List.cons_append, List.nil_append, List.append_nil, List.length_cons, List.length_nil, List.replicate_succ, List.replicate_zero, Nat.reduceAdd, Nat.reduceSub]
    have e3 : I3 259 7 = nI (n + 12) := by rw [c2]; simp [upd]
    refine zz_aload_n rfl dX10_feed_31 ?_
    refine zz_iload rfl dX10_feed_32 ?_
    try dsimp only [zz_s1, zz_s2, zz_kill, zz_ent, zz_fl, List.set_cons_zero, List.set_cons_succ, List.getElem?_cons_zero, List.getElem?_cons_succ, Option.toList_some, Option.toList_none, List.cons_append, List.nil_append, List.append_nil, List.length_cons, List.length_nil, List.replicate_succ, List.replicate_zero, Nat.reduceAdd, Nat.reduceSub]
    refine zz_cV1 dX10_feed_34 lX10_96 rfl (os_259 hO) rfl rfl (Nat.le_of_ble_eq_true rfl) (Nat.le_of_ble_eq_true rfl) ?_
    refine sp_X10_lay d hO e3 (by omega) (fun I4 d1 d2 d3 => ?_)
    try dsimp only [zz_s1, zz_s2, zz_kill, zz_ent, zz_fl, List.set_cons_zero, List.set_cons_succ, List.getElem?_cons_zero, List.getElem?_cons_succ, Option.toList_some, Option.toList_none, List.cons_append, List.nil_append, List.append_nil, List.length_cons, List.length_nil, List.replicate_succ, List.replicate_zero, Nat.reduceAdd, Nat.reduceSub]
    have e4 : I4 259 7 = nI (n + 16) := by rw [d2]; simp [upd]
    refine zz_aload_n rfl dX10_feed_37 ?_
    refine zz_iload rfl dX10_feed_38 ?_
    try dsimp only [zz_s1, zz_s2, zz_kill, zz_ent, zz_fl, List.set_cons_zero, List.set_cons_succ, List.getElem?_cons_zero, List.getElem?_cons_succ, Option.toList_some, Option.toList_none, List.cons_append, List.nil_append, List.append_nil, List.length_cons, List.length_nil, List.replicate_succ, List.replicate_zero, Nat.reduceAdd, Nat.reduceSub]
    refine zz_cV1 dX10_feed_40 lX10_96 rfl (os_259 hO) rfl rfl (Nat.le_of_ble_eq_true rfl) (Nat.le_of_ble_eq_true rfl) ?_
    refine sp_X10_lay d hO e4 (by omega) (fun I5 f1 f2 f3 => ?_)
    try dsimp only [zz_s1, zz_s2, zz_kill, zz_ent, zz_fl, List.set_cons_zero, List.set_cons_succ, List.getElem?_cons_zero, List.getElem?_cons_succ, Option.toList_some, Option.toList_none, List.cons_append, List.nil_append, List.append_nil, List.length_cons, List.length_nil, List.replicate_succ, List.replicate_zero, Nat.reduceAdd, Nat.reduceSub]
    have e5 : I5 259 7 = nI (n + 20) := by rw [f2]; simp [upd]
    refine zz_aload_n rfl dX10_feed_43 ?_
    refine zz_geti dX10_feed_44 fX10_93 rfl (os_259 hO) ?_
    refine zz_ireturn dX10_feed_47 rfl (by first | rfl | decide | assumption) ?_
    rw [e5]
    refine h1 hroom I5 (fun c q1 q2 => ?_) ?_ ?_
    · rw [f1 c q1 q2, d1 c q1 q2, c1 c q1 q2, b1 c q1 q2, a1 c q1 q2]
    · rw [f2, d2, c2, b2, a2]
      simp only [fa_upd_twice]
    · rw [f3, d3, c3, b3, a3, wr_app, wr_app, wr_app, wr_app]
      rfl
  · skip
    refine zz_bipush (v := (-3)) (by decide) dX10_feed_13 ?_
    refine zz_ireturn dX10_feed_15 rfl (by first | rfl | decide | assumption) ?_
    exact h2 (fun q => h ((nI_leI (by omega) (by omega)).mpr q))
end PFeed

