/-! ===== the class's search: the least of the largest codes ===== -/
/-- all words -/
def ltW (W : Nat) : Nat → Bool := fun i => decide (i < W)
/-- the plain choice, word after word: what is open, what is taken -/
def gd (N : Nat → Nat → Bool) (W m : Nat) : Nat → (Nat → Bool) × (Nat → Bool)
  | 0 => (ltW W, fun _ => false)
  | v + 1 => if (gd N W m v).1 v = true ∧ fb_ct (gd N W m v).2 64 + 1 + al N 64 (mi (gd N W m v).1 (N v)) = m then (mi (gd N W m v).1 (N v), fun w => (gd N W m v).2 w || decide (w = v)) else (rm (gd N W m v).1 v, (gd N W m v).2)
theorem gd_y {N : Nat → Nat → Bool} {W m v : Nat} (h : (gd N W m v).1 v = true ∧ fb_ct (gd N W m v).2 64 + 1 + al N 64 (mi (gd N W m v).1 (N v)) = m) : gd N W m (v + 1) = (mi (gd N W m v).1 (N v), fun w => (gd N W m v).2 w || decide (w = v)) := by
  show (if _ then _ else _) = _
  rw [if_pos h]
theorem gd_n {N : Nat → Nat → Bool} {W m v : Nat} (h : ¬ ((gd N W m v).1 v = true ∧ fb_ct (gd N W m v).2 64 + 1 + al N 64 (mi (gd N W m v).1 (N v)) = m)) : gd N W m (v + 1) = (rm (gd N W m v).1 v, (gd N W m v).2) := by
  show (if _ then _ else _) = _
  rw [if_neg h]
/-- taken words lie below, open ones not; all below W -/
theorem gd_lt {N : Nat → Nat → Bool} {W m : Nat} (rf : ∀ x, N x x = true) : ∀ v, (∀ w, (gd N W m v).1 w = true → v ≤ w ∧ w < W) ∧ (∀ w, (gd N W m v).2 w = true → w < v ∧ w < W)
  | 0 => ⟨fun w h => ⟨Nat.zero_le _, by simpa [gd, ltW] using h⟩, fun w h => by cases h⟩
  | v + 1 => by
    obtain ⟨h1, h2⟩ := gd_lt rf v
    by_cases c : (gd N W m v).1 v = true ∧ fb_ct (gd N W m v).2 64 + 1 + al N 64 (mi (gd N W m v).1 (N v)) = m
    · rw [gd_y c]
      refine ⟨fun w h => ?_, fun w h => ?_⟩
      · have h : mi (gd N W m v).1 (N v) w = true := h
        rw [mi_t] at h
        have := h1 w h.1
        have : w ≠ v := fun e => by rw [e, rf] at h; cases h.2
        omega
      · have h : ((gd N W m v).2 w || decide (w = v)) = true := h
        rw [Bool.or_eq_true, decide_eq_true_eq] at h
        rcases h with h | h
        · have := h2 w h; omega
        · have := h1 v c.1; omega
    · rw [gd_n c]
      refine ⟨fun w h => ?_, fun w h => ?_⟩
      · have h : rm (gd N W m v).1 v w = true := h
        rw [rm_t] at h
        have := h1 w h.1
        have := h.2
        omega
      · have := h2 w h; omega
theorem bl_all {W : Nat} (hW : W < 64) : bl (jv_lshl 1 (nI W) - 1) = ltW W := by
  funext i
  rw [show (1 : Int64) = lN 1 from rfl, lsh_nI hW, Nat.one_mul, show lN (2 ^ W) - lN 1 = lN (2 ^ W - 1) from lN_sub (Nat.two_pow_pos W), bl_lN, Nat.testBit_two_pow_sub_one]
  unfold ltW
  by_cases h : i < W
  · simp [h, show i < 64 by omega]
  · simp [h]
section PLeast
variable {M : zz_M} {I : zz_I} {J : zz_J} {Q : zz_Q} {W : Nat} {N : Nat → Nat → Bool}
theorem sp_allWords (d : Nat) (hO : OK M) (hW : W ≤ 64) (h1 : I 8 1 = nI W) (hQ : ∀ x : Int64, bl x = ltW W → Q (some (.long x)) M I J) : zz_D mX1_allWords d [.ref 8] M I J Q := by
  refine zz_D_of rfl (Nat.le_of_ble_eq_true rfl) ?_
  try dsimp only [zz_s1, zz_s2, zz_kill, zz_ent, zz_fl, List.set_cons_zero, List.set_cons_succ, List.getElem?_cons_zero, List.getElem?_cons_succ, Option.toList_some, Option.toList_none, List.cons_append, List.nil_append, List.append_nil, List.length_cons, List.length_nil, List.replicate_succ, List.replicate_zero, Nat.reduceAdd, Nat.reduceSub]
  refine zz_aload_n rfl dX1_allWords_0 ?_
  refine zz_geti dX1_allWords_1 fX1_15 rfl (os_8 hO) ?_
  refine zz_bipush (v := 64) (by decide) dX1_allWords_4 ?_
  try dsimp only [zz_s1, zz_s2, zz_kill, zz_ent, zz_fl, List.set_cons_zero, List.set_cons_succ, List.getElem?_cons_zero, List.getElem?_cons_succ, Option.toList_some, Option.toList_none, List.cons_append, List.nil_append, List.append_nil, List.length_cons, List.length_nil, List.replicate_succ, List.replicate_zero, Nat.reduceAdd, Nat.reduceSub]
  rw [h1]
  refine zz_icmp_lt (tgt := 15) dX1_allWords_6 (by decide) (fun h => ?_) (fun h => ?_)
  · have hl : W < 64 := (nI_ltI (b := 64) (by omega) (by decide)).mp h
    refine zz_lconst (v := 1) (by decide) dX1_allWords_15 ?_
    refine zz_aload_n rfl dX1_allWords_16 ?_
    refine zz_geti dX1_allWords_17 fX1_15 rfl (os_8 hO) ?_
    refine zz_lshl dX1_allWords_20 ?_
    refine zz_lconst (v := 1) (by decide) dX1_allWords_21 ?_
    refine zz_lsub dX1_allWords_22 ?_
    refine zz_lreturn dX1_allWords_23 rfl ?_
    rw [h1]
    exact hQ _ (bl_all hl)
  · skip
    have hl : W = 64 := by
      have : ¬ W < 64 := fun z => h (nI_lt (b := 64) z (by decide))
      omega
    refine zz_ldc2 tX1_41 dX1_allWords_9 ?_
    refine zz_goto (tgt := 23) dX1_allWords_12 (by decide) ?_
    refine zz_lreturn dX1_allWords_23 rfl ?_
    refine hQ _ (funext fun i => ?_)
    unfold ltW
    by_cases hi : i < 64
    · rw [bl_m1 i hi]; simp [hl, hi]
    · rw [bl_big (by omega)]; simp [hl, hi]
theorem sp_findLargest (d : Nat) (hO : OK M) (hW : W ≤ 64) (sy : ∀ x y, N x y = N y x) (rf : ∀ x, N x x = true) (hN : NB J W N) (h1 : I 8 1 = nI W) (hQ : ∀ (I' : zz_I) (J' : zz_J), (∀ a, a ≠ 8 → I' a = I a) → (∀ i, i ≠ 3 → i ≠ 4 → I' 8 i = I 8 i) → (∀ a, a ≠ 8 → J' a = J a) → I' 8 3 = nI (al N 64 (ltW W)) → xV N (fun _ => false) (ltW W) (al N 64 (ltW W)) (J' 8 2) → Q (some (.int (nI (al N 64 (ltW W))))) M I' J') : zz_D mX1_findLargest (d + 69) [.ref 8] M I J Q := by
  have hle : al N 64 (ltW W) ≤ W := by
    have h2 : fb_ct (ltW W) 64 = min W 64 := ct_below W 64
    have h3 := al_ct (N := N) (i := 64) (A := ltW W)
    omega
  refine zz_D_of rfl (Nat.le_of_ble_eq_true rfl) ?_
  try dsimp only [zz_s1, zz_s2, zz_kill, zz_ent, zz_fl, List.set_cons_zero, List.set_cons_succ, List.getElem?_cons_zero, List.getElem?_cons_succ, Option.toList_some, Option.toList_none, List.cons_append, List.nil_append, List.append_nil, List.length_cons, List.length_nil, List.replicate_succ, List.replicate_zero, Nat.reduceAdd, Nat.reduceSub]
  refine zz_aload_n rfl dX1_findLargest_0 ?_
  refine zz_lconst (v := 0) (by decide) dX1_findLargest_1 ?_
  refine zz_putl dX1_findLargest_2 fX1_19 rfl (fun q h => by cases h; rfl) (os_8 hO) ?_
  refine zz_aload_n rfl dX1_findLargest_5 ?_
  refine zz_iconst (v := 0) (by decide) dX1_findLargest_6 ?_
  refine zz_puti dX1_findLargest_7 fX1_23 rfl (fun q h => by cases h; rfl) (os_8 hO) ?_
  refine zz_aload_n rfl dX1_findLargest_10 ?_
  refine zz_aload_n rfl dX1_findLargest_11 ?_
  refine zz_geti dX1_findLargest_12 fX1_15 rfl (os_8 hO) ?_
  refine zz_puti dX1_findLargest_15 fX1_26 rfl (fun q h => by cases h; rfl) (os_8 hO) ?_
  refine zz_aload_n rfl dX1_findLargest_18 ?_
  refine zz_aload_n rfl dX1_findLargest_19 ?_
  try dsimp only [zz_s1, zz_s2, zz_kill, zz_ent, zz_fl, List.set_cons_zero, List.set_cons_succ, List.getElem?_cons_zero, List.getElem?_cons_succ, Option.toList_some, Option.toList_none, List.cons_append, List.nil_append, List.append_nil, List.length_cons, List.length_nil, List.replicate_succ, List.replicate_zero, Nat.reduceAdd, Nat.reduceSub]
  refine zz_cV0 dX1_findLargest_20 lX1_37 rfl (os_8 hO) rfl rfl (Nat.le_of_ble_eq_true rfl) (Nat.le_of_ble_eq_true rfl) ?_
  refine sp_allWords (d + 68) hO hW (by rw [zz_ui_at, pk_un (by decide), zz_ui_at, pk_un (by decide)]; exact h1) (fun x hx => ?_)
  try dsimp only [zz_s1, zz_s2, zz_kill, zz_ent, zz_fl, List.set_cons_zero, List.set_cons_succ, List.getElem?_cons_zero, List.getElem?_cons_succ, Option.toList_some, Option.toList_none, List.cons_append, List.nil_append, List.append_nil, List.length_cons, List.length_nil, List.replicate_succ, List.replicate_zero, Nat.reduceAdd, Nat.reduceSub]
  refine zz_lconst (v := 0) (by decide) dX1_findLargest_23 ?_
  refine zz_iconst (v := 0) (by decide) dX1_findLargest_24 ?_
  try dsimp only [zz_s1, zz_s2, zz_kill, zz_ent, zz_fl, List.set_cons_zero, List.set_cons_succ, List.getElem?_cons_zero, List.getElem?_cons_succ, Option.toList_some, Option.toList_none, List.cons_append, List.nil_append, List.append_nil, List.length_cons, List.length_nil, List.replicate_succ, List.replicate_zero, Nat.reduceAdd, Nat.reduceSub]
  refine zz_cV3 dX1_findLargest_25 lX1_58 rfl (os_8 hO) rfl rfl (Nat.le_of_ble_eq_true rfl) (Nat.le_of_ble_eq_true rfl) ?_
  refine sp_explore hO hW sy rf 64 d _ _ _ x 0 0 0 W (fun v hv w hw => ?_) (fun i hi => ?_) (fun x y hx hy => ?_) (fun x y hx hy => ?_) (ct64 x) (by have := ct64 x; omega) ?_ ?_ (by decide) hW (fun I' J' s' p1 p2 p3 p4 p5 p6 p7 => ?_)
  · rw [zz_uj_ne _ _ _ (by decide)]; exact hN v hv w hw
  · rw [hx] at hi; simpa [ltW] using hi
  · rw [bl_0] at hx; cases hx
  · rw [bl_0] at hx; cases hx
  · rw [zz_ui_at, pk_un (by decide), zz_ui_at, pk_us]; rfl
  · rw [zz_ui_at, pk_us, zz_ui_at, pk_un (by decide)]; exact h1
  · try dsimp only [zz_s1, zz_s2, zz_kill, zz_ent, zz_fl, List.set_cons_zero, List.set_cons_succ, List.getElem?_cons_zero, List.getElem?_cons_succ, Option.toList_some, Option.toList_none, List.cons_append, List.nil_append, List.append_nil, List.length_cons, List.length_nil, List.replicate_succ, List.replicate_zero, Nat.reduceAdd, Nat.reduceSub]
    have z0 : fb_ct (bl 0) 64 = 0 := fb_ct_zero.mpr (fun i _ => bl_0 i)
    rw [z0, hx] at p7
    have hv : xV N (fun _ => false) (ltW W) s' (J' 8 2) := by
      rcases p6 with z | z
      · refine ⟨?_, fun x y hx => ?_, fun w hw => (by cases hw), fun w hw => ?_⟩
        · rw [z.2, zz_uj_at, pk_uLs, z0, z.1]
        · rw [z.2, zz_uj_at, pk_uLs, bl_0] at hx; cases hx
        · rw [z.2, zz_uj_at, pk_uLs, bl_0] at hw; cases hw
      · refine ⟨z.2.1, z.2.2.1, fun w hw => (by cases hw), fun w hw => ?_⟩
        rw [hx] at z
        exact (z.2.2.2.2 w hw).imp (fun y => by rw [bl_0] at y; cases y) id
    have hs : s' = al N 64 (ltW W) := by
      have h2 : s' ≤ al N 64 (ltW W) := by
        rw [← hv.1, ← al_ind hv.2.1 (i := 64)]
        exact al_mono (fun w _ z => (hv.2.2.2 w z).elim (fun y => by cases y) id)
      omega
    rw [hs] at hv p4
    refine zz_aload_n rfl dX1_findLargest_28 ?_
    refine zz_geti dX1_findLargest_29 fX1_23 rfl (os_8 hO) ?_
    refine zz_ireturn dX1_findLargest_32 rfl (by first | rfl | decide | assumption) ?_
    rw [p4]
    refine hQ I' J' (fun a ha => ?_) (fun i i3 i4 => ?_) (fun a ha => ?_) p4 hv
    · rw [p1 a ha, zz_ui_ne _ _ _ ha, zz_ui_ne _ _ _ ha]
    · rw [p2 i i3, zz_ui_at, pk_un i4, zz_ui_at, pk_un i3]
    · rw [p3 a ha, zz_uj_ne _ _ _ ha]
theorem sp_X1_reaches (d : Nat) (hO : OK M) (hW : W ≤ 64) (sy : ∀ x y, N x y = N y x) (rf : ∀ x, N x x = true) (hN : NB J W N) {op ch : Int64} {m : Nat} (hm : 1 ≤ m) (hm64 : m ≤ 64) (h3 : I 8 3 = nI m) (hop : sb op W) (hch : ind N (bl ch)) (hco : ∀ x y, bl ch x = true → bl op y = true → N x y = false) (hle : fb_ct (bl ch) 64 + al N 64 (bl op) ≤ m)
    (hQ : ∀ (I' : zz_I) (J' : zz_J) (r : Int32), (∀ a, a ≠ 8 → I' a = I a) → (∀ i, i ≠ 3 → i ≠ 4 → I' 8 i = I 8 i) → (∀ a, a ≠ 8 → J' a = J a) → I' 8 3 = nI m → bo r (fb_ct (bl ch) 64 + al N 64 (bl op) = m) → (r = 0 → J' 8 2 = J 8 2) → (¬ r = 0 → xV N (bl ch) (bl op) m (J' 8 2)) → Q (some (.int r)) M I' J') : zz_D mX1_reaches (d + 69) [.ref 8, .long op, .long ch] M I J Q := by
  refine zz_D_of rfl (Nat.le_of_ble_eq_true rfl) ?_
  try dsimp only [zz_s1, zz_s2, zz_kill, zz_ent, zz_fl, List.set_cons_zero, List.set_cons_succ, List.getElem?_cons_zero, List.getElem?_cons_succ, Option.toList_some, Option.toList_none, List.cons_append, List.nil_append, List.append_nil, List.length_cons, List.length_nil, List.replicate_succ, List.replicate_zero, Nat.reduceAdd, Nat.reduceSub]
  refine zz_aload_n rfl dX1_reaches_0 ?_
  refine zz_aload_n rfl dX1_reaches_1 ?_
  refine zz_geti dX1_reaches_2 fX1_23 rfl (os_8 hO) ?_
  refine zz_puti dX1_reaches_5 fX1_26 rfl (fun q h => by cases h; rfl) (os_8 hO) ?_
  refine zz_aload_n rfl dX1_reaches_8 ?_
  refine zz_dup rfl dX1_reaches_9 ?_
  refine zz_geti dX1_reaches_10 fX1_23 rfl (os_8 hO) ?_
  refine zz_iconst (v := 1) (by decide) dX1_reaches_13 ?_
  refine zz_isub dX1_reaches_14 ?_
  refine zz_puti dX1_reaches_15 fX1_23 rfl (fun q h => by cases h; rfl) (os_8 hO) ?_
  refine zz_aload_n rfl dX1_reaches_18 ?_
  refine zz_lload_n rfl dX1_reaches_19 ?_
  refine zz_lload_n rfl dX1_reaches_20 ?_
  refine zz_iconst (v := 0) (by decide) dX1_reaches_21 ?_
  try dsimp only [zz_s1, zz_s2, zz_kill, zz_ent, zz_fl, List.set_cons_zero, List.set_cons_succ, List.getElem?_cons_zero, List.getElem?_cons_succ, Option.toList_some, Option.toList_none, List.cons_append, List.nil_append, List.append_nil, List.length_cons, List.length_nil, List.replicate_succ, List.replicate_zero, Nat.reduceAdd, Nat.reduceSub]
  rw [h3, show zz_ui I 8 4 (nI m) 8 3 = nI m from by rw [zz_ui_at, pk_un (by decide)]; exact h3, show nI m - 1 = nI (m - 1) from pk_sub (b := 1) hm]
  refine zz_cV3 dX1_reaches_22 lX1_58 rfl (os_8 hO) rfl rfl (Nat.le_of_ble_eq_true rfl) (Nat.le_of_ble_eq_true rfl) ?_
  refine sp_explore hO hW sy rf 64 d _ _ _ op ch 0 (m - 1) m hN hop hch hco (ct64 op) (by have := ct64 op; omega) ?_ ?_ (by omega) hm64 (fun I' J' s' p1 p2 p3 p4 p5 p6 p7 => ?_)
  · rw [zz_ui_at, pk_us]
  · rw [zz_ui_at, pk_un (by decide), zz_ui_at, pk_us]
  · try dsimp only [zz_s1, zz_s2, zz_kill, zz_ent, zz_fl, List.set_cons_zero, List.set_cons_succ, List.getElem?_cons_zero, List.getElem?_cons_succ, Option.toList_some, Option.toList_none, List.cons_append, List.nil_append, List.append_nil, List.length_cons, List.length_nil, List.replicate_succ, List.replicate_zero, Nat.reduceAdd, Nat.reduceSub]
    have e4 : I' 8 4 = nI m := by rw [p2 4 (by decide), zz_ui_at, pk_un (by decide), zz_ui_at, pk_us]
    have hfin : ∀ (r : Int32), bo r (fb_ct (bl ch) 64 + al N 64 (bl op) = m) → (r = 0 → J' 8 2 = J 8 2) → (¬ r = 0 → xV N (bl ch) (bl op) m (J' 8 2)) → Q (some (.int r)) M (zz_ui I' 8 3 (nI m)) J' := by
      intro r q1 q2 q3
      refine hQ _ J' r (fun a ha => ?_) (fun i i3 i4 => ?_) p3 (by rw [zz_ui_at, pk_us]) q1 q2 q3
      · rw [zz_ui_ne _ _ _ ha, p1 a ha, zz_ui_ne _ _ _ ha, zz_ui_ne _ _ _ ha]
      · rw [zz_ui_at, pk_un i3, p2 i i3, zz_ui_at, pk_un i3, zz_ui_at, pk_un i4]
    have hvle : xV N (bl ch) (bl op) s' (J' 8 2) → s' ≤ fb_ct (bl ch) 64 + al N 64 (bl op) := by
      rintro ⟨a, b, c, e⟩
      have h1 := al_ind b (i := 64)
      rw [a] at h1
      rw [← h1]
      have hd : ∀ x, bl ch x = true → mi (bl (J' 8 2)) (bl ch) x = false := fun x hx => by unfold mi; rw [hx]; simp
      have h2 := al_lone sy (i := 64) (A := bl (J' 8 2)) (L := bl ch) (fun x hx => c x hx) (fun x w hx hw hn => by
        by_cases ee : w = x
        · exact ee
        · have := b x w (c x hx) hw (fun z => ee z.symm)
          rw [hn] at this; cases this)
      rw [h2]
      refine Nat.add_le_add_left (al_mono (fun w _ hw => ?_)) _
      rw [mi_t] at hw
      exact (e w hw.1).elim (fun z => by rw [hw.2] at z; cases z) id
    refine zz_aload_n rfl dX1_reaches_25 ?_
    refine zz_geti dX1_reaches_26 fX1_23 rfl (os_8 hO) ?_
    refine zz_aload_n rfl dX1_reaches_29 ?_
    refine zz_geti dX1_reaches_30 fX1_26 rfl (os_8 hO) ?_
    try dsimp only [zz_s1, zz_s2, zz_kill, zz_ent, zz_fl, List.set_cons_zero, List.set_cons_succ, List.getElem?_cons_zero, List.getElem?_cons_succ, Option.toList_some, Option.toList_none, List.cons_append, List.nil_append, List.append_nil, List.length_cons, List.length_nil, List.replicate_succ, List.replicate_zero, Nat.reduceAdd, Nat.reduceSub]
    rw [p4, e4]
    refine zz_icmp_ne (tgt := 40) dX1_reaches_33 (by decide) (fun h5 => ?_) (fun h5 => ?_)
    · have hne : ¬ s' = m := fun z => h5 (by rw [z])
      refine zz_iconst (v := 0) (by decide) dX1_reaches_40 ?_
      refine zz_istore dX1_reaches_41 (by decide) ?_
      refine zz_aload_n rfl dX1_reaches_43 ?_
      refine zz_aload_n rfl dX1_reaches_44 ?_
      refine zz_geti dX1_reaches_45 fX1_26 rfl (os_8 hO) ?_
      refine zz_puti dX1_reaches_48 fX1_23 rfl (fun q h => by cases h; rfl) (os_8 hO) ?_
      refine zz_iload rfl dX1_reaches_51 ?_
      refine zz_ireturn dX1_reaches_53 rfl (by first | rfl | decide | assumption) ?_
      rw [e4]
      refine hfin 0 (bo.zero fun z => ?_) (fun _ => ?_) (fun z => absurd rfl z)
      · rcases p7 with y | y
        · rcases p6 with x | x
          · omega
          · have := hvle x.2; omega
        · rcases p6 with x | x
          · omega
          · have := hvle x.2; omega
      · rcases p6 with x | x
        · exact x.2
        · have := hvle x.2; omega
    · skip
      have he : s' = m := (nI_eq (by omega) (by omega)).mp h5
      refine zz_iconst (v := 1) (by decide) dX1_reaches_36 ?_
      refine zz_goto (tgt := 41) dX1_reaches_37 (by decide) ?_
      refine zz_istore dX1_reaches_41 (by decide) ?_
      refine zz_aload_n rfl dX1_reaches_43 ?_
      refine zz_aload_n rfl dX1_reaches_44 ?_
      refine zz_geti dX1_reaches_45 fX1_26 rfl (os_8 hO) ?_
      refine zz_puti dX1_reaches_48 fX1_23 rfl (fun q h => by cases h; rfl) (os_8 hO) ?_
      refine zz_iload rfl dX1_reaches_51 ?_
      refine zz_ireturn dX1_reaches_53 rfl (by first | rfl | decide | assumption) ?_
      rw [e4]
      rw [he] at p6 p7 hvle
      have hx : xV N (bl ch) (bl op) m (J' 8 2) := p6.elim (fun z => by omega) (fun z => z.2)
      exact hfin 1 (bo.one (by have := hvle hx; omega)) (fun z => absurd z (by decide)) (fun _ => hx)
/-- what the choice keeps: a largest code lies between -/
theorem gd_take (sy : ∀ x y, N x y = N y x) {O L f : Nat → Bool} {m v : Nat} (hm : fb_ct f 64 = m) (hi : ind N f) (hl : ∀ w, L w = true → f w = true) (ho : ∀ w, f w = true → L w = true ∨ O w = true) (hv : f v = true) (hvl : L v = false) : m ≤ fb_ct L 64 + 1 + al N 64 (mi O (N v)) := by
  have h1 := al_ind hi (i := 64)
  have h2 := al_lone sy (i := 64) (A := f) (L := fun w => L w || decide (w = v)) (fun x hx => by
    rw [Bool.or_eq_true, decide_eq_true_eq] at hx
    exact hx.elim (hl x) (fun z => by rw [z]; exact hv)) (fun x w hx hw hn => by
    rw [Bool.or_eq_true, decide_eq_true_eq] at hx
    have hx : f x = true := hx.elim (hl x) (fun z => by rw [z]; exact hv)
    by_cases e : w = x
    · exact e
    · have := hi x w hx hw (fun z => e z.symm)
      rw [hn] at this; cases this)
  have h3 : fb_ct (fun w => L w || decide (w = v)) 64 ≤ fb_ct L 64 + 1 := by
    rw [fb_ct_or (p := L) (q := fun w => decide (w = v)) (fun k _ z => by
      have : k = v := by simpa using z.2
      rw [this, hvl] at z; cases z.1)]
    refine Nat.add_le_add_left ?_ _
    refine Nat.le_of_not_lt fun z => ?_
    have h4 : ∀ i, fb_ct (fun w => decide (w = v)) i ≤ 1 ∧ (i ≤ v → fb_ct (fun w => decide (w = v)) i = 0) := by
      intro i
      induction i with
      | zero => exact ⟨Nat.zero_le _, fun _ => rfl⟩
      | succ i ih =>
        rw [fb_ct_succ]
        by_cases e : i = v
        · have := ih.2 (by omega)
          simp [e] at *
          omega
        · simp [e]
          exact ⟨ih.1, fun z => ih.2 (by omega)⟩
    have := (h4 64).1
    omega
  have h5 : al N 64 (mi f (fun w => L w || decide (w = v))) ≤ al N 64 (mi O (N v)) := al_mono (fun w _ hw => by
    rw [mi_t] at hw
    have hw2 : L w = false ∧ ¬ w = v := by simpa using hw.2
    rw [mi_t]
    refine ⟨(ho w hw.1).elim (fun z => by rw [hw2.1] at z; cases z) id, hi v w hv hw.1 (fun z => hw2.2 z.symm)⟩)
  omega
theorem sp_leastLargest (d : Nat) (hO : OK M) (hW : W ≤ 64) (sy : ∀ x y, N x y = N y x) (rf : ∀ x, N x x = true) (hN : NB J W N) (h1 : I 8 1 = nI W) {m : Nat} (hm : m = al N 64 (ltW W)) (hm1 : 1 ≤ m) (h3 : I 8 3 = nI m) (hf : xV N (fun _ => false) (ltW W) m (J 8 2)) (hQ : ∀ (I' : zz_I) (J' : zz_J) (x : Int64), (∀ a, a ≠ 8 → I' a = I a) → (∀ a, a ≠ 8 → J' a = J a) → bl x = (gd N W m W).2 → Q (some (.long x)) M I' J') : zz_D mX1_leastLargest (d + 70) [.ref 8] M I J Q := by
  have hle : al N 64 (ltW W) ≤ W := by
    have h2 : fb_ct (ltW W) 64 = min W 64 := ct_below W 64
    have h3 := al_ct (N := N) (i := 64) (A := ltW W)
    omega
  refine zz_D_of rfl (Nat.le_of_ble_eq_true rfl) ?_
  try dsimp only [zz_s1, zz_s2, zz_kill, zz_ent, zz_fl, List.set_cons_zero, List.set_cons_succ, List.getElem?_cons_zero, List.getElem?_cons_succ, Option.toList_some, Option.toList_none, List.cons_append, List.nil_append, List.append_nil, List.length_cons, List.length_nil, List.replicate_succ, List.replicate_zero, Nat.reduceAdd, Nat.reduceSub]
  refine zz_lconst (v := 0) (by decide) dX1_leastLargest_0 ?_
  refine zz_lstore_n dX1_leastLargest_1 (by decide) ?_
  refine zz_aload_n rfl dX1_leastLargest_2 ?_
  try dsimp only [zz_s1, zz_s2, zz_kill, zz_ent, zz_fl, List.set_cons_zero, List.set_cons_succ, List.getElem?_cons_zero, List.getElem?_cons_succ, Option.toList_some, Option.toList_none, List.cons_append, List.nil_append, List.append_nil, List.length_cons, List.length_nil, List.replicate_succ, List.replicate_zero, Nat.reduceAdd, Nat.reduceSub]
  refine zz_cV0 dX1_leastLargest_3 lX1_37 rfl (os_8 hO) rfl rfl (Nat.le_of_ble_eq_true rfl) (Nat.le_of_ble_eq_true rfl) ?_
  refine sp_allWords (d + 69) hO hW h1 (fun al0 hal0 => ?_)
  try dsimp only [zz_s1, zz_s2, zz_kill, zz_ent, zz_fl, List.set_cons_zero, List.set_cons_succ, List.getElem?_cons_zero, List.getElem?_cons_succ, Option.toList_some, Option.toList_none, List.cons_append, List.nil_append, List.append_nil, List.length_cons, List.length_nil, List.replicate_succ, List.replicate_zero, Nat.reduceAdd, Nat.reduceSub]
  refine zz_lstore_n dX1_leastLargest_6 (by decide) ?_
  refine zz_iconst (v := 0) (by decide) dX1_leastLargest_7 ?_
  refine zz_istore dX1_leastLargest_8 (by decide) ?_
  try dsimp only [zz_s1, zz_s2, zz_kill, zz_ent, zz_fl, List.set_cons_zero, List.set_cons_succ, List.getElem?_cons_zero, List.getElem?_cons_succ, Option.toList_some, Option.toList_none, List.cons_append, List.nil_append, List.append_nil, List.length_cons, List.length_nil, List.replicate_succ, List.replicate_zero, Nat.reduceAdd, Nat.reduceSub]
  have loop : ∀ (q v : Nat) (Ix : zz_I) (Jx : zz_J) (op le : Int64) (z6 z8 : Option Value), v + q = W → (∀ a, a ≠ 8 → Ix a = I a) → (∀ i, i ≠ 3 → i ≠ 4 → Ix 8 i = I 8 i) → (∀ a, a ≠ 8 → Jx a = J a) → Ix 8 3 = nI m → bl op = (gd N W m v).1 → bl le = (gd N W m v).2 → ind N (bl le) → (∀ x y, bl le x = true → bl op y = true → N x y = false) → fb_ct (bl le) 64 + al N 64 (bl op) = m → xV N (bl le) (bl op) m (Jx 8 2) → zz_G mX1_leastLargest (d + 70) 0 10 [some (.ref 8), some (.long le), none, some (.long op), none, some (.int (nI v)), z6, none, z8, none] [] M Ix Jx Q := by
    intro q
    induction q with
    | zero =>
      intro v Ix Jx op le z6 z8 hv f1 f2 f3 f4 g1 g2 g3 g4 g5 g6
      have e : v = W := by omega
      subst e
      refine zz_iload rfl dX1_leastLargest_10 ?_
      refine zz_aload_n rfl dX1_leastLargest_12 ?_
      refine zz_geti dX1_leastLargest_13 fX1_15 rfl (os_8 hO) ?_
      try dsimp only [zz_s1, zz_s2, zz_kill, zz_ent, zz_fl, List.set_cons_zero, List.set_cons_succ, List.getElem?_cons_zero, List.getElem?_cons_succ, Option.toList_some, Option.toList_none, List.cons_append, List.nil_append, List.append_nil, List.length_cons, List.length_nil, List.replicate_succ, List.replicate_zero, Nat.reduceAdd, Nat.reduceSub]
      rw [f2 1 (by decide) (by decide), h1]
      refine zz_icmp_ge (tgt := 100) dX1_leastLargest_16 (by decide) (fun h => ?_) (fun h => ?_)
      · refine zz_lload_n rfl dX1_leastLargest_100 ?_
        refine zz_lreturn dX1_leastLargest_101 rfl ?_
        exact hQ Ix Jx le f1 f3 g2
      · exact absurd (nI_le (Nat.le_refl v) (by omega)) h
    | succ q ih =>
      intro v Ix Jx op le z6 z8 hv f1 f2 f3 f4 g1 g2 g3 g4 g5 g6
      have hv64 : v < 64 := by omega
      have hNx : NB Jx W N := fun v hv w hw => by rw [f3 9 (by decide)]; exact hN v hv w hw
      have hgl := gd_lt (N := N) (W := W) (m := m) rf v
      have hop : sb op W := fun w hw => (hgl.1 w (by rw [← g1]; exact hw)).2
      have efd : ∀ f : Int64, (f &&& jv_lshl 1 (nI v) = 0) ↔ bl f v = false := fun f => by
        rw [bl_zero]
        constructor
        · intro z; have := z v; rw [bl_and, bl_one' hv64] at this; simpa using this
        · intro z i
          rw [bl_and, bl_one' hv64]
          by_cases e : i = v
          · rw [e, z]; rfl
          · simp [e]
      have eo := efd op
      refine zz_iload rfl dX1_leastLargest_10 ?_
      refine zz_aload_n rfl dX1_leastLargest_12 ?_
      refine zz_geti dX1_leastLargest_13 fX1_15 rfl (os_8 hO) ?_
      try dsimp only [zz_s1, zz_s2, zz_kill, zz_ent, zz_fl, List.set_cons_zero, List.set_cons_succ, List.getElem?_cons_zero, List.getElem?_cons_succ, Option.toList_some, Option.toList_none, List.cons_append, List.nil_append, List.append_nil, List.length_cons, List.length_nil, List.replicate_succ, List.replicate_zero, Nat.reduceAdd, Nat.reduceSub]
      rw [f2 1 (by decide) (by decide), h1]
      refine zz_icmp_ge (tgt := 100) dX1_leastLargest_16 (by decide) (fun h => ?_) (fun h => ?_)
      · exact absurd h (nI_ge (by omega) (by omega))
      refine zz_lconst (v := 1) (by decide) dX1_leastLargest_19 ?_
      refine zz_iload rfl dX1_leastLargest_20 ?_
      refine zz_lshl dX1_leastLargest_22 ?_
      refine zz_lstore dX1_leastLargest_23 (by decide) ?_
      refine zz_lload_n rfl dX1_leastLargest_25 ?_
      refine zz_lload rfl dX1_leastLargest_26 ?_
      refine zz_land dX1_leastLargest_28 ?_
      refine zz_lconst (v := 0) (by decide) dX1_leastLargest_29 ?_
      refine zz_lcmp dX1_leastLargest_30 ?_
      try dsimp only [zz_s1, zz_s2, zz_kill, zz_ent, zz_fl, List.set_cons_zero, List.set_cons_succ, List.getElem?_cons_zero, List.getElem?_cons_succ, Option.toList_some, Option.toList_none, List.cons_append, List.nil_append, List.append_nil, List.length_cons, List.length_nil, List.replicate_succ, List.replicate_zero, Nat.reduceAdd, Nat.reduceSub]
      refine zz_if_eq (tgt := 94) dX1_leastLargest_31 (by decide) (fun h4 => ?_) (fun h4 => ?_)
      · -- not open
        have ho : bl op v = false := eo.mp (cmp_eq.mp h4)
        refine zz_iinc dX1_leastLargest_94 rfl (congrArg (HAdd.hAdd _) (show Int32.ofInt 1 = 1 by decide)) (by decide) ?_
        refine zz_goto (tgt := 10) dX1_leastLargest_97 (by decide) ?_
        try dsimp only [zz_s1, zz_s2, zz_kill, zz_ent, zz_fl, List.set_cons_zero, List.set_cons_succ, List.getElem?_cons_zero, List.getElem?_cons_succ, Option.toList_some, Option.toList_none, List.cons_append, List.nil_append, List.append_nil, List.length_cons, List.length_nil, List.replicate_succ, List.replicate_zero, Nat.reduceAdd, Nat.reduceSub]
        rw [nI_1]
        have hn := gd_n (N := N) (W := W) (m := m) (v := v) (fun z => by rw [← g1, ho] at z; cases z.1)
        have he : rm (bl op) v = bl op := funext fun w => by
          unfold rm
          by_cases e : w = v
          · rw [e, ho]; rfl
          · simp [e]
        exact ih (v + 1) Ix Jx op le _ _ (by omega) f1 f2 f3 f4 (by rw [hn, ← g1]; exact he.symm) (by rw [hn]; exact g2) g3 g4 g5 g6
      have ho : bl op v = true := by
        cases z : bl op v with
        | true => rfl
        | false => exact absurd (cmp_eq.mpr (eo.mpr z)) h4
      have hle0 : bl le v = false := by
        cases z : bl le v with
        | false => rfl
        | true => have := g4 v v z ho; rw [rf] at this; cases this
      have hbr := al_br sy rf hv64 ho
      refine zz_lload_n rfl dX1_leastLargest_34 ?_
      refine zz_aload_n rfl dX1_leastLargest_35 ?_
      refine zz_getr dX1_leastLargest_36 fX1_9 (fun _ _ _ _ => rfl) (os_8 hO) (or_8_0 hO) ?_
      refine zz_iload rfl dX1_leastLargest_39 ?_
      refine zz_lald dX1_leastLargest_41 (os_9 hO) (vp_in_nI hv64 (by decide)) ?_
      refine zz_ldc2 tX1_41 dX1_leastLargest_42 ?_
      refine zz_lxor dX1_leastLargest_45 ?_
      refine zz_land dX1_leastLargest_46 ?_
      refine zz_lstore dX1_leastLargest_47 (by decide) ?_
      try dsimp only [zz_s1, zz_s2, zz_kill, zz_ent, zz_fl, List.set_cons_zero, List.set_cons_succ, List.getElem?_cons_zero, List.getElem?_cons_succ, Option.toList_some, Option.toList_none, List.cons_append, List.nil_append, List.append_nil, List.length_cons, List.length_nil, List.replicate_succ, List.replicate_zero, Nat.reduceAdd, Nat.reduceSub]
      rw [nI_clamp (show v < 2 ^ 31 by omega)]
      have em : bl (op &&& (Jx 9 v ^^^ (-1))) = mi (bl op) (N v) := by rw [bm, nbm hNx hop (by omega)]
      have ecw : ∀ w, bl (le ||| jv_lshl 1 (nI v)) w = (bl le w || decide (w = v)) := fun w => by rw [bl_or, bl_one' hv64]
      have ecf : bl (le ||| jv_lshl 1 (nI v)) = fun w => bl le w || decide (w = v) := funext ecw
      have ect : ∀ w, bl (le ||| jv_lshl 1 (nI v)) w = true ↔ bl le w = true ∨ w = v := fun w => by rw [ecw, Bool.or_eq_true, decide_eq_true_eq]
      have cw : fb_ct (bl (le ||| jv_lshl 1 (nI v))) 64 = fb_ct (bl le) 64 + 1 := by
        have h1 := ct_rm (A := bl (le ||| jv_lshl 1 (nI v))) hv64 ((ect v).mpr (Or.inr rfl))
        have h2 : fb_ct (rm (bl (le ||| jv_lshl 1 (nI v))) v) 64 = fb_ct (bl le) 64 := fb_ct_cong (fun k _ => by
          rw [Bool.eq_iff_iff, rm_t, ect]
          exact ⟨fun z => z.1.elim id (fun y => absurd y z.2), fun z => ⟨Or.inl z, fun y => by rw [y, hle0] at z; cases z⟩⟩)
        omega
      have kw1 : ind N (bl (le ||| jv_lshl 1 (nI v))) := by
        intro x y hx hy hne2
        rcases (ect x).mp hx with a | a
        · rcases (ect y).mp hy with b | b
          · exact g3 x y a b hne2
          · rw [b]; exact g4 x v a ho
        · rcases (ect y).mp hy with b | b
          · rw [a, sy]; exact g4 y v b ho
          · exact absurd (a.trans b.symm) hne2
      have kw2 : ∀ x y, bl (le ||| jv_lshl 1 (nI v)) x = true → bl (op &&& (Jx 9 v ^^^ (-1))) y = true → N x y = false := by
        intro x y hx hy
        rw [em, mi_t] at hy
        rcases (ect x).mp hx with a | a
        · exact g4 x y a hy.1
        · rw [a]; exact hy.2
      have take : ∀ (Iy : zz_I) (Jy : zz_J), (∀ a, a ≠ 8 → Iy a = I a) → (∀ i, i ≠ 3 → i ≠ 4 → Iy 8 i = I 8 i) → (∀ a, a ≠ 8 → Jy a = J a) → Iy 8 3 = nI m → fb_ct (bl le) 64 + 1 + al N 64 (mi (bl op) (N v)) = m → xV N (bl (le ||| jv_lshl 1 (nI v))) (bl (op &&& (Jx 9 v ^^^ (-1)))) m (Jy 8 2) → zz_G mX1_leastLargest (d + 70) 0 74 [some (.ref 8), some (.long le), none, some (.long op), none, some (.int (nI v)), some (.long (jv_lshl 1 (nI v))), none, some (.long (op &&& (Jx 9 v ^^^ (-1)))), none] [] M Iy Jy Q := by
        intro Iy Jy y1 y2 y3 y4 y5 y6
        refine zz_lload_n rfl dX1_leastLargest_74 ?_
        refine zz_lload rfl dX1_leastLargest_75 ?_
        refine zz_lor dX1_leastLargest_77 ?_
        refine zz_lstore_n dX1_leastLargest_78 (by decide) ?_
        refine zz_lload rfl dX1_leastLargest_79 ?_
        refine zz_lstore_n dX1_leastLargest_81 (by decide) ?_
        refine zz_goto (tgt := 94) dX1_leastLargest_82 (by decide) ?_
        refine zz_iinc dX1_leastLargest_94 rfl (congrArg (HAdd.hAdd _) (show Int32.ofInt 1 = 1 by decide)) (by decide) ?_
        refine zz_goto (tgt := 10) dX1_leastLargest_97 (by decide) ?_
        try dsimp only [zz_s1, zz_s2, zz_kill, zz_ent, zz_fl, List.set_cons_zero, List.set_cons_succ, List.getElem?_cons_zero, List.getElem?_cons_succ, Option.toList_some, Option.toList_none, List.cons_append, List.nil_append, List.append_nil, List.length_cons, List.length_nil, List.replicate_succ, List.replicate_zero, Nat.reduceAdd, Nat.reduceSub]
        rw [nI_1]
        have hy := gd_y (N := N) (W := W) (m := m) (v := v) (by rw [← g1, ← g2]; exact ⟨ho, y5⟩)
        refine ih (v + 1) Iy Jy _ _ _ _ (by omega) y1 y2 y3 y4 (by rw [hy, em, g1]) (by rw [hy, ecf, g2]) kw1 kw2 (by rw [cw, em]; exact y5) y6
      refine zz_aload_n rfl dX1_leastLargest_49 ?_
      refine zz_getl dX1_leastLargest_50 fX1_19 rfl (os_8 hO) ?_
      refine zz_lload rfl dX1_leastLargest_53 ?_
      refine zz_land dX1_leastLargest_55 ?_
      refine zz_lconst (v := 0) (by decide) dX1_leastLargest_56 ?_
      refine zz_lcmp dX1_leastLargest_57 ?_
      try dsimp only [zz_s1, zz_s2, zz_kill, zz_ent, zz_fl, List.set_cons_zero, List.set_cons_succ, List.getElem?_cons_zero, List.getElem?_cons_succ, Option.toList_some, Option.toList_none, List.cons_append, List.nil_append, List.append_nil, List.length_cons, List.length_nil, List.replicate_succ, List.replicate_zero, Nat.reduceAdd, Nat.reduceSub]
      refine zz_if_ne (tgt := 74) dX1_leastLargest_58 (by decide) (fun h5 => ?_) (fun h5 => ?_)
      · have hfv : bl (Jx 8 2) v = true := by
          cases z : bl (Jx 8 2) v with
          | true => rfl
          | false => exact absurd (cmp_eq.mpr ((efd _).mpr z)) h5
        have hge := gd_take sy g6.1 g6.2.1 g6.2.2.1 g6.2.2.2 hfv hle0
        refine take Ix Jx f1 f2 f3 f4 (by omega) ⟨g6.1, g6.2.1, fun w hw => ?_, fun w hw => ?_⟩
        · exact ((ect w).mp hw).elim (g6.2.2.1 w) (fun z => by rw [z]; exact hfv)
        · by_cases e : w = v
          · exact Or.inl ((ect w).mpr (Or.inr e))
          · rcases g6.2.2.2 w hw with a | a
            · exact Or.inl ((ect w).mpr (Or.inl a))
            · refine Or.inr ?_
              rw [em, mi_t]
              exact ⟨a, g6.2.1 v w hfv hw (fun z => e z.symm)⟩
      have hfv : bl (Jx 8 2) v = false := (efd _).mp (cmp_eq.mp h5)
      refine zz_aload_n rfl dX1_leastLargest_61 ?_
      refine zz_lload rfl dX1_leastLargest_62 ?_
      refine zz_lload_n rfl dX1_leastLargest_64 ?_
      refine zz_lload rfl dX1_leastLargest_65 ?_
      refine zz_lor dX1_leastLargest_67 ?_
      try dsimp only [zz_s1, zz_s2, zz_kill, zz_ent, zz_fl, List.set_cons_zero, List.set_cons_succ, List.getElem?_cons_zero, List.getElem?_cons_succ, Option.toList_some, Option.toList_none, List.cons_append, List.nil_append, List.append_nil, List.length_cons, List.length_nil, List.replicate_succ, List.replicate_zero, Nat.reduceAdd, Nat.reduceSub]
      refine zz_cV2 dX1_leastLargest_68 lX1_62 rfl (os_8 hO) rfl rfl (Nat.le_of_ble_eq_true rfl) (Nat.le_of_ble_eq_true rfl) ?_
      refine sp_X1_reaches d hO hW sy rf hNx hm1 (by omega) f4 (fun w hw => hop w (by rw [em, mi_t] at hw; exact hw.1)) kw1 kw2 (by rw [cw, em]; omega) (fun I' J' r p1 p2 p3 p4 p5 p6 p7 => ?_)
      try dsimp only [zz_s1, zz_s2, zz_kill, zz_ent, zz_fl, List.set_cons_zero, List.set_cons_succ, List.getElem?_cons_zero, List.getElem?_cons_succ, Option.toList_some, Option.toList_none, List.cons_append, List.nil_append, List.append_nil, List.length_cons, List.length_nil, List.replicate_succ, List.replicate_zero, Nat.reduceAdd, Nat.reduceSub]
      rw [cw, em] at p5
      refine zz_if_eq (tgt := 85) dX1_leastLargest_71 (by decide) (fun h6 => ?_) (fun h6 => ?_)
      · have hno := p5.f h6
        refine zz_lload_n rfl dX1_leastLargest_85 ?_
        refine zz_lload rfl dX1_leastLargest_86 ?_
        refine zz_ldc2 tX1_41 dX1_leastLargest_88 ?_
        refine zz_lxor dX1_leastLargest_91 ?_
        refine zz_land dX1_leastLargest_92 ?_
        refine zz_lstore_n dX1_leastLargest_93 (by decide) ?_
        refine zz_iinc dX1_leastLargest_94 rfl (congrArg (HAdd.hAdd _) (show Int32.ofInt 1 = 1 by decide)) (by decide) ?_
        refine zz_goto (tgt := 10) dX1_leastLargest_97 (by decide) ?_
        try dsimp only [zz_s1, zz_s2, zz_kill, zz_ent, zz_fl, List.set_cons_zero, List.set_cons_succ, List.getElem?_cons_zero, List.getElem?_cons_succ, Option.toList_some, Option.toList_none, List.cons_append, List.nil_append, List.append_nil, List.length_cons, List.length_nil, List.replicate_succ, List.replicate_zero, Nat.reduceAdd, Nat.reduceSub]
        rw [nI_1]
        have hn := gd_n (N := N) (W := W) (m := m) (v := v) (fun z => by rw [← g1, ← g2] at z; exact hno z.2)
        refine ih (v + 1) I' J' _ le _ _ (by omega) (fun a ha => (p1 a ha).trans (f1 a ha)) (fun i i3 i4 => (p2 i i3 i4).trans (f2 i i3 i4)) (fun a ha => (p3 a ha).trans (f3 a ha)) p4 (by rw [hn, br1 _ hv64, g1]) (by rw [hn]; exact g2) g3 (fun x y hx hy => g4 x y hx (by rw [br1 _ hv64, rm_t] at hy; exact hy.1)) (by rw [br1 _ hv64]; omega) ?_
        rw [p6 h6]
        refine ⟨g6.1, g6.2.1, g6.2.2.1, fun w hw => (g6.2.2.2 w hw).imp id (fun z => ?_)⟩
        rw [br1 _ hv64, rm_t]
        exact ⟨z, fun e => by rw [e, hfv] at hw; cases hw⟩
      · skip
        exact take I' J' (fun a ha => (p1 a ha).trans (f1 a ha)) (fun i i3 i4 => (p2 i i3 i4).trans (f2 i i3 i4)) (fun a ha => (p3 a ha).trans (f3 a ha)) p4 (p5.t h6) (p7 h6)
  have z0 : bl 0 = fun _ => false := funext bl_0
  refine loop W 0 I J al0 0 _ _ (by omega) (fun _ _ => rfl) (fun _ _ _ => rfl) (fun _ _ => rfl) h3 hal0 z0 (fun x y hx => ?_) (fun x y hx => ?_) ?_ ?_
  · rw [bl_0] at hx; cases hx
  · rw [bl_0] at hx; cases hx
  · rw [z0, hal0, show fb_ct (fun _ => false) 64 = 0 from fb_ct_zero.mpr (fun _ _ => rfl)]; omega
  · rw [z0, hal0]; exact hf
end PLeast

