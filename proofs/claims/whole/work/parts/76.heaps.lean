/-! ===== the class's heaps ===== -/
/-- letters apart: near if they are not mistaken -/
def farN (n : Nat) (E : Nat → Nat → Bool) (x y : Nat) : Bool := decide (x = y) || !tkB n E 1 x y
theorem farN_rf {n : Nat} {E : Nat → Nat → Bool} (x : Nat) : farN n E x x = true := by unfold farN; simp
theorem farN_sy {n : Nat} {E : Nat → Nat → Bool} (hE : wfE n E) (x y : Nat) : farN n E x y = farN n E y x := by
  unfold farN
  rw [tkB_sy hE 1 x y]
  by_cases e : x = y
  · rw [e]
  · rw [decide_eq_false e, decide_eq_false (fun z => e z.symm)]
theorem tkB_1 {n : Nat} {E : Nat → Nat → Bool} {x y : Nat} (hx : x < n) (hy : y < n) : tkB n E 1 x y = lkB E x y := by
  rw [tkB_s, Nat.mod_eq_of_lt hx, Nat.mod_eq_of_lt hy]
  show (lkB E x y && true) = lkB E x y
  rw [Bool.and_true]
theorem far_b {n : Nat} {E : Nat → Nat → Bool} : hp_b n E (al (farN n E) 64 (ltW n)) := by
  intro C h1 h2
  have hi : ind (farN n E) C := fun x y hx hy hne => by
    unfold farN
    rw [tkB_1 (h1 x hx) (h1 y hy), decide_eq_false hne]
    unfold lkB
    rw [h2 x y hx hy hne]
    simp
  have a1 := al_ind hi (i := 64)
  have a2 : al (farN n E) 64 C ≤ al (farN n E) 64 (ltW n) := al_mono (fun w _ hw => ltW_t.mpr (h1 w hw))
  have a3 : fb_ct C 32 ≤ fb_ct C 64 := fb_ct_mono _ (by decide)
  omega
theorem al_lt {N : Nat → Nat → Bool} {W : Nat} : al N 64 (ltW W) ≤ W := by
  have h2 : fb_ct (ltW W) 64 = min W 64 := ct_below W 64
  have h3 := al_ct (N := N) (i := 64) (A := ltW W)
  omega
theorem RTe.of {J J' : zz_J} {t : Nat} (h : RTe J t) (h10 : J' 10 = J 10) (h15 : J' 15 = J 15) : RTe J' t := by
  unfold RTe
  rw [h10, h15]
  exact h
section PHeaps
variable {M : zz_M} {I : zz_I} {J : zz_J} {Q : zz_Q} {t : Nat}
theorem sp_layFar (d : Nat) (hO : OK M) {l n : Nat} {kd ag : Int32} {E : Nat → Nat → Bool} {sg : Nat → Int32} {rw : Nat → Nat → Int32} (hl : l < 8) (hn1 : 1 ≤ n) (hn : n ≤ 24) (hc : CL I l n kd ag E sg rw) (hQ : ∀ (I' : zz_I) (J' : zz_J), (∀ a, a ≠ 8 → I' a = I a) → (∀ a, a ≠ 9 → J' a = J a) → I' 8 1 = nI n → NB J' n (farN n E) → Q none M I' J') : zz_D mX1_layFar (d + 4) [.ref 8, .ref (LN l)] M I J Q := by
  refine zz_D_of rfl (Nat.le_of_ble_eq_true rfl) ?_
  try dsimp only [zz_s1, zz_s2, zz_kill, zz_ent, zz_fl, List.set_cons_zero, List.set_cons_succ, List.getElem?_cons_zero, List.getElem?_cons_succ, Option.toList_some, Option.toList_none, List.cons_append, List.nil_append, List.append_nil, List.length_cons, List.length_nil, List.replicate_succ, List.replicate_zero, Nat.reduceAdd, Nat.reduceSub]
  refine zz_aload_n rfl dX1_layFar_0 ?_
  refine zz_aload_n rfl dX1_layFar_1 ?_
  refine zz_iconst (v := 1) (by decide) dX1_layFar_2 ?_
  try dsimp only [zz_s1, zz_s2, zz_kill, zz_ent, zz_fl, List.set_cons_zero, List.set_cons_succ, List.getElem?_cons_zero, List.getElem?_cons_succ, Option.toList_some, Option.toList_none, List.cons_append, List.nil_append, List.append_nil, List.length_cons, List.length_nil, List.replicate_succ, List.replicate_zero, Nat.reduceAdd, Nat.reduceSub]
  refine zz_cV2 dX1_layFar_3 lX1_33 rfl (os_8 hO) rfl rfl (Nat.le_of_ble_eq_true rfl) (Nat.le_of_ble_eq_true rfl) ?_
  refine sp_X1_lay (k := 1) d hO hl hn1 hn hc (by decide) (by rw [Nat.pow_one]; omega) (fun I1 J1 a1 a2 a3 a4 a5 => ?_)
  try dsimp only [zz_s1, zz_s2, zz_kill, zz_ent, zz_fl, List.set_cons_zero, List.set_cons_succ, List.getElem?_cons_zero, List.getElem?_cons_succ, Option.toList_some, Option.toList_none, List.cons_append, List.nil_append, List.append_nil, List.length_cons, List.length_nil, List.replicate_succ, List.replicate_zero, Nat.reduceAdd, Nat.reduceSub]
  rw [Nat.pow_one] at a4 a5
  refine zz_iconst (v := 0) (by decide) dX1_layFar_6 ?_
  refine zz_istore_n dX1_layFar_7 (by decide) ?_
  try dsimp only [zz_s1, zz_s2, zz_kill, zz_ent, zz_fl, List.set_cons_zero, List.set_cons_succ, List.getElem?_cons_zero, List.getElem?_cons_succ, Option.toList_some, Option.toList_none, List.cons_append, List.nil_append, List.append_nil, List.length_cons, List.length_nil, List.replicate_succ, List.replicate_zero, Nat.reduceAdd, Nat.reduceSub]
  have loop : ∀ (q a : Nat) (Jx : zz_J), a + q = n → (∀ c, c ≠ 9 → Jx c = J c) → (∀ v, v < a → ∀ w, w < n → bl (Jx 9 v) w = farN n E v w) → (∀ v, a ≤ v → Jx 9 v = J1 9 v) → zz_G mX1_layFar (d + 4) 0 8 [some (.ref 8), some (.ref (LN l)), some (.int (nI a))] [] M I1 Jx Q := by
    intro q
    induction q with
    | zero =>
      intro a Jx ha f1 f2 f3
      have e : a = n := by omega
      subst e
      refine zz_iload_n rfl dX1_layFar_8 ?_
      refine zz_aload_n rfl dX1_layFar_9 ?_
      refine zz_geti dX1_layFar_10 fX1_15 rfl (os_8 hO) ?_
      try dsimp only [zz_s1, zz_s2, zz_kill, zz_ent, zz_fl, List.set_cons_zero, List.set_cons_succ, List.getElem?_cons_zero, List.getElem?_cons_succ, Option.toList_some, Option.toList_none, List.cons_append, List.nil_append, List.append_nil, List.length_cons, List.length_nil, List.replicate_succ, List.replicate_zero, Nat.reduceAdd, Nat.reduceSub]
      rw [a4]
      refine zz_icmp_ge (tgt := 47) dX1_layFar_13 (by decide) (fun h => ?_) (fun h => ?_)
      · refine zz_return dX1_layFar_47 rfl ?_
        exact hQ I1 Jx a1 f1 a4 f2
      · exact absurd (nI_le (Nat.le_refl a) (by omega)) h
    | succ q ih =>
      intro a Jx ha f1 f2 f3
      refine zz_iload_n rfl dX1_layFar_8 ?_
      refine zz_aload_n rfl dX1_layFar_9 ?_
      refine zz_geti dX1_layFar_10 fX1_15 rfl (os_8 hO) ?_
      try dsimp only [zz_s1, zz_s2, zz_kill, zz_ent, zz_fl, List.set_cons_zero, List.set_cons_succ, List.getElem?_cons_zero, List.getElem?_cons_succ, Option.toList_some, Option.toList_none, List.cons_append, List.nil_append, List.append_nil, List.length_cons, List.length_nil, List.replicate_succ, List.replicate_zero, Nat.reduceAdd, Nat.reduceSub]
      rw [a4]
      refine zz_icmp_ge (tgt := 47) dX1_layFar_13 (by decide) (fun h => ?_) (fun h => ?_)
      · exact absurd h (nI_ge (by omega) (by omega))
      · skip
        refine zz_aload_n rfl dX1_layFar_16 ?_
        refine zz_getr dX1_layFar_17 fX1_9 (fun _ _ _ _ => rfl) (os_8 hO) (or_8_0 hO) ?_
        refine zz_iload_n rfl dX1_layFar_20 ?_
        refine zz_aload_n rfl dX1_layFar_21 ?_
        try dsimp only [zz_s1, zz_s2, zz_kill, zz_ent, zz_fl, List.set_cons_zero, List.set_cons_succ, List.getElem?_cons_zero, List.getElem?_cons_succ, Option.toList_some, Option.toList_none, List.cons_append, List.nil_append, List.append_nil, List.length_cons, List.length_nil, List.replicate_succ, List.replicate_zero, Nat.reduceAdd, Nat.reduceSub]
        refine zz_cV0 dX1_layFar_22 lX1_37 rfl (os_8 hO) rfl rfl (Nat.le_of_ble_eq_true rfl) (Nat.le_of_ble_eq_true rfl) ?_
        refine sp_allWords (d + 3) hO (show n ≤ 64 by omega) a4 (fun x hx => ?_)
        try dsimp only [zz_s1, zz_s2, zz_kill, zz_ent, zz_fl, List.set_cons_zero, List.set_cons_succ, List.getElem?_cons_zero, List.getElem?_cons_succ, Option.toList_some, Option.toList_none, List.cons_append, List.nil_append, List.append_nil, List.length_cons, List.length_nil, List.replicate_succ, List.replicate_zero, Nat.reduceAdd, Nat.reduceSub]
        refine zz_aload_n rfl dX1_layFar_25 ?_
        refine zz_getr dX1_layFar_26 fX1_9 (fun _ _ _ _ => rfl) (os_8 hO) (or_8_0 hO) ?_
        refine zz_iload_n rfl dX1_layFar_29 ?_
        refine zz_lald dX1_layFar_30 (os_9 hO) (vp_in_nI (show a < 64 by omega) (by decide)) ?_
        refine zz_ldc2 tX1_41 dX1_layFar_31 ?_
        refine zz_lxor dX1_layFar_34 ?_
        refine zz_land dX1_layFar_35 ?_
        refine zz_lconst (v := 1) (by decide) dX1_layFar_36 ?_
        refine zz_iload_n rfl dX1_layFar_37 ?_
        refine zz_lshl dX1_layFar_38 ?_
        refine zz_lor dX1_layFar_39 ?_
        refine zz_last dX1_layFar_40 (os_9 hO) (vp_in_nI (show a < 64 by omega) (by decide)) ?_
        refine zz_iinc dX1_layFar_41 rfl (congrArg (HAdd.hAdd _) (show Int32.ofInt 1 = 1 by decide)) (by decide) ?_
        refine zz_goto (tgt := 8) dX1_layFar_44 (by decide) ?_
        try dsimp only [zz_s1, zz_s2, zz_kill, zz_ent, zz_fl, List.set_cons_zero, List.set_cons_succ, List.getElem?_cons_zero, List.getElem?_cons_succ, Option.toList_some, Option.toList_none, List.cons_append, List.nil_append, List.append_nil, List.length_cons, List.length_nil, List.replicate_succ, List.replicate_zero, Nat.reduceAdd, Nat.reduceSub]
        rw [nI_1, nI_clamp (show a < 2 ^ 31 by omega)]
        refine ih (a + 1) _ (by omega) (fun c hc => ?_) (fun v hv w hw => ?_) (fun v hv => ?_)
        · rw [zz_uj_ne _ _ _ hc]; exact f1 c hc
        · rw [zz_uj_at]
          by_cases e : v = a
          · rw [e, pk_uLs, bl_or, bm, bl_one' (show a < 64 by omega), hx, f3 a (Nat.le_refl a)]
            unfold mi farN
            rw [a5 a (by omega) w]
            unfold ltW
            by_cases c : a = w
            · simp [c]
            · simp [c, hw, show ¬ w = a from fun z => c z.symm]
          · rw [pk_uLn e]; exact f2 v (by omega) w hw
        · rw [zz_uj_at, pk_uLn (by omega)]; exact f3 v (by omega)
  exact loop n 0 J1 (by omega) a3 (fun v hv => by omega) (fun v _ => rfl)
/-- how many letters, at the least, want a heap each -/
def hp_a (n : Nat) (E : Nat → Nat → Bool) : Nat := al (tkB n E 1) 64 (ltW (n ^ 1))
theorem hp_a1 {n : Nat} {E : Nat → Nat → Bool} (hn1 : 1 ≤ n) (hn : n ≤ 24) : 1 ≤ hp_a n E := al_pos (by rw [Nat.pow_one]; exact hn1) (by rw [Nat.pow_one]; omega)
theorem hp_an {n : Nat} {E : Nat → Nat → Bool} : hp_a n E ≤ n := by
  have := al_lt (N := tkB n E 1) (W := n ^ 1)
  rw [Nat.pow_one] at this
  unfold hp_a
  rw [Nat.pow_one]
  exact this
theorem sp_fewestHeaps (d : Nat) (hO : OK M) {l n : Nat} {kd ag : Int32} {E : Nat → Nat → Bool} {sg : Nat → Int32} {rw : Nat → Nat → Int32} (hl : l < 8) (hn1 : 1 ≤ n) (hn : n ≤ 24) (hE : wfE n E) (hc : CL I l n kd ag E sg rw) (ht : t + 24 < 2 ^ 30) (hT : RTe J t) (hQ : ∀ (I' : zz_I) (J' : zz_J) (kk w t' : Nat), (∀ c, c ≠ 8 → c ≠ 10 → c ≠ 11 → c ≠ 12 → c ≠ 13 → I' c = I c) → (∀ c, c ≠ 8 → c ≠ 9 → c ≠ 10 → c ≠ 15 → J' c = J c) → hp_N n E (hp_a n E) kk → w ≤ 24 → hp_b n E w → CV I' n kk w E → t' ≤ t + 24 → RTe J' t' → Q (some (.int (nI kk))) M I' J') : zz_D mX9_fewestHeaps (d + 70) [.ref 1, .ref (LN l)] M I J Q := by
  have e64 : n ^ 1 ≤ 64 := by rw [Nat.pow_one]; omega
  refine zz_D_of rfl (Nat.le_of_ble_eq_true rfl) ?_
  try dsimp only [zz_s1, zz_s2, zz_kill, zz_ent, zz_fl, List.set_cons_zero, List.set_cons_succ, List.getElem?_cons_zero, List.getElem?_cons_succ, Option.toList_some, Option.toList_none, List.cons_append, List.nil_append, List.append_nil, List.length_cons, List.length_nil, List.replicate_succ, List.replicate_zero, Nat.reduceAdd, Nat.reduceSub]
  refine zz_aload_n rfl dX9_fewestHeaps_0 ?_
  refine zz_getr dX9_fewestHeaps_1 fX9_36 (fun _ _ _ _ => rfl) (os_1 hO) (or_1_4 hO) ?_
  refine zz_aload_n rfl dX9_fewestHeaps_4 ?_
  refine zz_iconst (v := 1) (by decide) dX9_fewestHeaps_5 ?_
  try dsimp only [zz_s1, zz_s2, zz_kill, zz_ent, zz_fl, List.set_cons_zero, List.set_cons_succ, List.getElem?_cons_zero, List.getElem?_cons_succ, Option.toList_some, Option.toList_none, List.cons_append, List.nil_append, List.append_nil, List.length_cons, List.length_nil, List.replicate_succ, List.replicate_zero, Nat.reduceAdd, Nat.reduceSub]
  refine zz_cV2 dX9_fewestHeaps_6 lX9_185 rfl (os_8 hO) rfl rfl (Nat.le_of_ble_eq_true rfl) (Nat.le_of_ble_eq_true rfl) ?_
  refine sp_X1_lay (k := 1) (d + 66) hO hl hn1 hn hc (by decide) e64 (fun I1 J1 a1 a2 a3 a4 a5 => ?_)
  try dsimp only [zz_s1, zz_s2, zz_kill, zz_ent, zz_fl, List.set_cons_zero, List.set_cons_succ, List.getElem?_cons_zero, List.getElem?_cons_succ, Option.toList_some, Option.toList_none, List.cons_append, List.nil_append, List.append_nil, List.length_cons, List.length_nil, List.replicate_succ, List.replicate_zero, Nat.reduceAdd, Nat.reduceSub]
  refine zz_aload_n rfl dX9_fewestHeaps_9 ?_
  refine zz_getr dX9_fewestHeaps_10 fX9_36 (fun _ _ _ _ => rfl) (os_1 hO) (or_1_4 hO) ?_
  try dsimp only [zz_s1, zz_s2, zz_kill, zz_ent, zz_fl, List.set_cons_zero, List.set_cons_succ, List.getElem?_cons_zero, List.getElem?_cons_succ, Option.toList_some, Option.toList_none, List.cons_append, List.nil_append, List.append_nil, List.length_cons, List.length_nil, List.replicate_succ, List.replicate_zero, Nat.reduceAdd, Nat.reduceSub]
  refine zz_cV0 dX9_fewestHeaps_13 lX9_189 rfl (os_8 hO) rfl rfl (Nat.le_of_ble_eq_true rfl) (Nat.le_of_ble_eq_true rfl) ?_
  refine sp_findLargest d hO e64 (tkB_sy (n := n) hE 1) (tkB_rf 1) a5.nb a4 (fun I2 J2 b1 b2 b3 b4 b5 => ?_)
  try dsimp only [zz_s1, zz_s2, zz_kill, zz_ent, zz_fl, List.set_cons_zero, List.set_cons_succ, List.getElem?_cons_zero, List.getElem?_cons_succ, Option.toList_some, Option.toList_none, List.cons_append, List.nil_append, List.append_nil, List.length_cons, List.length_nil, List.replicate_succ, List.replicate_zero, Nat.reduceAdd, Nat.reduceSub]
  refine zz_istore_n dX9_fewestHeaps_16 (by decide) ?_
  refine zz_aload_n rfl dX9_fewestHeaps_17 ?_
  refine zz_getr dX9_fewestHeaps_18 fX9_36 (fun _ _ _ _ => rfl) (os_1 hO) (or_1_4 hO) ?_
  refine zz_aload_n rfl dX9_fewestHeaps_21 ?_
  try dsimp only [zz_s1, zz_s2, zz_kill, zz_ent, zz_fl, List.set_cons_zero, List.set_cons_succ, List.getElem?_cons_zero, List.getElem?_cons_succ, Option.toList_some, Option.toList_none, List.cons_append, List.nil_append, List.append_nil, List.length_cons, List.length_nil, List.replicate_succ, List.replicate_zero, Nat.reduceAdd, Nat.reduceSub]
  have e2 : ∀ c, c ≠ 8 → I2 c = I c := fun c hc => (b1 c hc).trans (a1 c hc)
  refine zz_cV1 dX9_fewestHeaps_22 lX9_285 rfl (os_8 hO) rfl rfl (Nat.le_of_ble_eq_true rfl) (Nat.le_of_ble_eq_true rfl) ?_
  refine sp_layFar (d + 65) hO hl hn1 hn (CL_of (fun c h1 h2 => e2 c (by omega)) hl hc) (fun I3 J3 c1 c2 c3 c4 => ?_)
  try dsimp only [zz_s1, zz_s2, zz_kill, zz_ent, zz_fl, List.set_cons_zero, List.set_cons_succ, List.getElem?_cons_zero, List.getElem?_cons_succ, Option.toList_some, Option.toList_none, List.cons_append, List.nil_append, List.append_nil, List.length_cons, List.length_nil, List.replicate_succ, List.replicate_zero, Nat.reduceAdd, Nat.reduceSub]
  refine zz_aload_n rfl dX9_fewestHeaps_25 ?_
  refine zz_getr dX9_fewestHeaps_26 fX9_43 (fun _ _ _ _ => rfl) (os_1 hO) (or_1_5 hO) ?_
  refine zz_aload_n rfl dX9_fewestHeaps_29 ?_
  refine zz_iload_n rfl dX9_fewestHeaps_30 ?_
  refine zz_aload_n rfl dX9_fewestHeaps_31 ?_
  refine zz_getr dX9_fewestHeaps_32 fX9_36 (fun _ _ _ _ => rfl) (os_1 hO) (or_1_4 hO) ?_
  try dsimp only [zz_s1, zz_s2, zz_kill, zz_ent, zz_fl, List.set_cons_zero, List.set_cons_succ, List.getElem?_cons_zero, List.getElem?_cons_succ, Option.toList_some, Option.toList_none, List.cons_append, List.nil_append, List.append_nil, List.length_cons, List.length_nil, List.replicate_succ, List.replicate_zero, Nat.reduceAdd, Nat.reduceSub]
  refine zz_cV0 dX9_fewestHeaps_35 lX9_189 rfl (os_8 hO) rfl rfl (Nat.le_of_ble_eq_true rfl) (Nat.le_of_ble_eq_true rfl) ?_
  refine sp_findLargest d hO (show n ≤ 64 by omega) (farN_sy hE) (farN_rf) c4 c3 (fun I4 J4 g1 g2 g3 g4 g5 => ?_)
  try dsimp only [zz_s1, zz_s2, zz_kill, zz_ent, zz_fl, List.set_cons_zero, List.set_cons_succ, List.getElem?_cons_zero, List.getElem?_cons_succ, Option.toList_some, Option.toList_none, List.cons_append, List.nil_append, List.append_nil, List.length_cons, List.length_nil, List.replicate_succ, List.replicate_zero, Nat.reduceAdd, Nat.reduceSub]
  have e4 : ∀ c, c ≠ 8 → I4 c = I c := fun c hc => by rw [g1 c hc, c1 c hc]; exact e2 c hc
  have hw := al_lt (N := farN n E) (W := n)
  have j4 : ∀ c, c ≠ 8 → c ≠ 9 → J4 c = J c := fun c k1 k2 => by rw [g3 c k1, c2 c k2, b3 c k1, a3 c k2]
  refine zz_cV3 dX9_fewestHeaps_38 lX9_288 rfl (os_10 hO) rfl rfl (Nat.le_of_ble_eq_true rfl) (Nat.le_of_ble_eq_true rfl) ?_
  refine sp_fewest (A := hp_a n E) (d + 16) hO hl hn (CL_of (fun c h1 h2 => e4 c (by omega)) hl hc) hE (hp_a1 hn1 hn) hp_an (by omega) far_b ht (hT.of (j4 10 (by decide) (by decide)) (j4 15 (by decide) (by decide))) (fun I5 J5 kk t' p1 p2 p3 p4 p5 p6 => ?_)
  try dsimp only [zz_s1, zz_s2, zz_kill, zz_ent, zz_fl, List.set_cons_zero, List.set_cons_succ, List.getElem?_cons_zero, List.getElem?_cons_succ, Option.toList_some, Option.toList_none, List.cons_append, List.nil_append, List.append_nil, List.length_cons, List.length_nil, List.replicate_succ, List.replicate_zero, Nat.reduceAdd, Nat.reduceSub]
  refine zz_ireturn dX9_fewestHeaps_41 rfl (by first | rfl | decide | assumption) ?_
  refine hQ I5 J5 kk _ t' (fun c k1 k2 k3 k4 _ => ?_) (fun c k1 k2 k3 k4 => ?_) p3 (by omega) far_b p4 p5 p6
  · rw [p1 c k2 k3 k4]; exact e4 c k1
  · rw [p2 c k3 k4]; exact j4 c k1 k2
theorem sp_X9_heaps (d : Nat) (hO : OK M) {l : Int32} {n : Nat → Nat} {kd ag : Nat → Int32} {E : Nat → Nat → Nat → Bool} {sg : Nat → Nat → Int32} {rw : Nat → Nat → Nat → Int32} (hn : ∀ j, j < 8 → 1 ≤ n j ∧ n j ≤ 24) (hE : ∀ j, j < 8 → wfE (n j) (E j)) (hC : ∀ j, j < 8 → CL I j (n j) (kd j) (ag j) (E j) (sg j) (rw j)) (ht : t + 600 < 2 ^ 30) (hT : RTe J t)
    (h1 : ∀ j, j < 8 → l = nI j → ∀ (I' : zz_I) (J' : zz_J) (kk t' : Nat) (r : Nat → Nat), (∀ c, c ≠ 1 → c ≠ 8 → c ≠ 10 → c ≠ 11 → c ≠ 12 → c ≠ 13 → c ≠ 14 → c ≠ 26 → I' c = I c) → (∀ i, i ≠ 11 → I' 1 i = I 1 i) → I' 1 11 = nI (n j) → (∀ c, c ≠ 8 → c ≠ 9 → c ≠ 10 → c ≠ 15 → J' c = J c) → hp_N (n j) (E j) (hp_a (n j) (E j)) kk → hp_L (n j) (E j) kk r → (∀ a, a < n j → I' 26 a = nI (r a)) → t' ≤ t + 600 → RTe J' t' → Q (some (.int (nI kk))) M I' J')
    (h2 : ¬ vp_in l 8 → Q (some (.int (-2))) M I J) : zz_D mX9_heaps (d + 71) [.ref 1, .int l] M I J Q := by
  refine zz_D_of rfl (Nat.le_of_ble_eq_true rfl) ?_
  try dsimp only [zz_s1, zz_s2, zz_kill, zz_ent, zz_fl, List.set_cons_zero, List.set_cons_succ, List.getElem?_cons_zero, List.getElem?_cons_succ, Option.toList_some, Option.toList_none, List.cons_append, List.nil_append, List.append_nil, List.length_cons, List.length_nil, List.replicate_succ, List.replicate_zero, Nat.reduceAdd, Nat.reduceSub]
  refine zz_aload_n rfl dX9_heaps_0 ?_
  refine zz_iload_n rfl dX9_heaps_1 ?_
  try dsimp only [zz_s1, zz_s2, zz_kill, zz_ent, zz_fl, List.set_cons_zero, List.set_cons_succ, List.getElem?_cons_zero, List.getElem?_cons_succ, Option.toList_some, Option.toList_none, List.cons_append, List.nil_append, List.append_nil, List.length_cons, List.length_nil, List.replicate_succ, List.replicate_zero, Nat.reduceAdd, Nat.reduceSub]
  refine zz_cV1 dX9_heaps_2 lX9_100 rfl (os_1 hO) rfl rfl (Nat.le_of_ble_eq_true rfl) (Nat.le_of_ble_eq_true rfl) ?_
  refine sp_lineAt (d + 70) hO (fun j hj e => ?_) (fun hv => ?_)
  try dsimp only [zz_s1, zz_s2, zz_kill, zz_ent, zz_fl, List.set_cons_zero, List.set_cons_succ, List.getElem?_cons_zero, List.getElem?_cons_succ, Option.toList_some, Option.toList_none, List.cons_append, List.nil_append, List.append_nil, List.length_cons, List.length_nil, List.replicate_succ, List.replicate_zero, Nat.reduceAdd, Nat.reduceSub]
  · skip
    have hc := hC j hj
    have hnj := hn j hj
    have hL8 : 26 < LN j := by unfold LN; omega
    refine zz_astore_n dX9_heaps_5 (by decide) ?_
    refine zz_aload_n rfl dX9_heaps_6 ?_
    try dsimp only [zz_s1, zz_s2, zz_kill, zz_ent, zz_fl, List.set_cons_zero, List.set_cons_succ, List.getElem?_cons_zero, List.getElem?_cons_succ, Option.toList_some, Option.toList_none, List.cons_append, List.nil_append, List.append_nil, List.length_cons, List.length_nil, List.replicate_succ, List.replicate_zero, Nat.reduceAdd, Nat.reduceSub]
    refine zz_ifnonnull (tgt := 13) dX9_heaps_7 (by decide) ?_
    refine zz_aload_n rfl dX9_heaps_13 ?_
    refine zz_aload_n rfl dX9_heaps_14 ?_
    try dsimp only [zz_s1, zz_s2, zz_kill, zz_ent, zz_fl, List.set_cons_zero, List.set_cons_succ, List.getElem?_cons_zero, List.getElem?_cons_succ, Option.toList_some, Option.toList_none, List.cons_append, List.nil_append, List.append_nil, List.length_cons, List.length_nil, List.replicate_succ, List.replicate_zero, Nat.reduceAdd, Nat.reduceSub]
    refine zz_cV1 dX9_heaps_15 lX9_212 rfl (os_1 hO) rfl rfl (Nat.le_of_ble_eq_true rfl) (Nat.le_of_ble_eq_true rfl) ?_
    refine sp_fewestHeaps d hO hj hnj.1 hnj.2 (hE j hj) hc (show t + 24 < 2 ^ 30 by omega) hT (fun I1 J1 kk w t1 a1 a2 a3 a4 a5 a6 a7 a8 => ?_)
    try dsimp only [zz_s1, zz_s2, zz_kill, zz_ent, zz_fl, List.set_cons_zero, List.set_cons_succ, List.getElem?_cons_zero, List.getElem?_cons_succ, Option.toList_some, Option.toList_none, List.cons_append, List.nil_append, List.append_nil, List.length_cons, List.length_nil, List.replicate_succ, List.replicate_zero, Nat.reduceAdd, Nat.reduceSub]
    refine zz_istore_n dX9_heaps_18 (by decide) ?_
    refine zz_aload_n rfl dX9_heaps_19 ?_
    refine zz_getr dX9_heaps_20 fX9_43 (fun _ _ _ _ => rfl) (os_1 hO) (or_1_5 hO) ?_
    refine zz_aload_n rfl dX9_heaps_23 ?_
    refine zz_getr dX9_heaps_24 fX9_75 (fun _ _ _ _ => rfl) (os_1 hO) (or_1_10 hO) ?_
    try dsimp only [zz_s1, zz_s2, zz_kill, zz_ent, zz_fl, List.set_cons_zero, List.set_cons_succ, List.getElem?_cons_zero, List.getElem?_cons_succ, Option.toList_some, Option.toList_none, List.cons_append, List.nil_append, List.append_nil, List.length_cons, List.length_nil, List.replicate_succ, List.replicate_zero, Nat.reduceAdd, Nat.reduceSub]
    have hk := hp_N_le a3 hp_an
    refine zz_cV1 dX9_heaps_27 lX9_216 rfl (os_10 hO) rfl rfl (Nat.le_of_ble_eq_true rfl) (Nat.le_of_ble_eq_true rfl) ?_
    refine sp_leastRow (d + 16) hO hnj.2 (show kk ≤ 24 by omega) a4 (hE j hj) a5 (show t1 + 576 < 2 ^ 30 by omega) a8 a6 a3.2.1 (fun I2 J2 t2 r b1 b2 b3 b4 b5 b6 => ?_)
    try dsimp only [zz_s1, zz_s2, zz_kill, zz_ent, zz_fl, List.set_cons_zero, List.set_cons_succ, List.getElem?_cons_zero, List.getElem?_cons_succ, Option.toList_some, Option.toList_none, List.cons_append, List.nil_append, List.append_nil, List.length_cons, List.length_nil, List.replicate_succ, List.replicate_zero, Nat.reduceAdd, Nat.reduceSub]
    refine zz_aload_n rfl dX9_heaps_30 ?_
    refine zz_aload_n rfl dX9_heaps_31 ?_
    refine zz_geti dX9_heaps_32 fX9_144 rfl (ol_obj hO hj) ?_
    refine zz_puti dX9_heaps_35 fX9_78 rfl (fun q h => by cases h; rfl) (os_1 hO) ?_
    refine zz_iload_n rfl dX9_heaps_38 ?_
    refine zz_ireturn dX9_heaps_39 rfl (by first | rfl | decide | assumption) ?_
    have e1 : I2 (LN j) 1 = nI (n j) := by
      rw [b1 _ (by omega) (by omega) (by omega) (by omega), a1 _ (by omega) (by omega) (by omega) (by omega) (by omega)]
      exact hc.2.1
    rw [e1]
    refine h1 j hj e _ J2 kk t2 r (fun c c1 c2 c3 c4 c5 c6 c7 c8 => ?_) (fun i hi => ?_) ?_ (fun c c1 c2 c3 c4 => ?_) a3 b5 (fun a ha => ?_) (by omega) b3
    · rw [zz_ui_ne _ _ _ c1, b1 c c5 c6 c7 c8, a1 c c2 c3 c4 c5 c6]
    · rw [zz_ui_at, pk_un hi, b1 1 (by decide) (by decide) (by decide) (by decide), a1 1 (by decide) (by decide) (by decide) (by decide) (by decide)]
    · rw [zz_ui_at, pk_us]
    · rw [b2 c c3 c4, a2 c c1 c2 c3 c4]
    · rw [zz_ui_ne _ _ _ (by decide)]; exact b6 a ha
  · try dsimp only [zz_s1, zz_s2, zz_kill, zz_ent, zz_fl, List.set_cons_zero, List.set_cons_succ, List.getElem?_cons_zero, List.getElem?_cons_succ, Option.toList_some, Option.toList_none, List.cons_append, List.nil_append, List.append_nil, List.length_cons, List.length_nil, List.replicate_succ, List.replicate_zero, Nat.reduceAdd, Nat.reduceSub]
    refine zz_nstore_n dX9_heaps_5 (by decide) ?_
    refine zz_nload_n rfl dX9_heaps_6 ?_
    try dsimp only [zz_s1, zz_s2, zz_kill, zz_ent, zz_fl, List.set_cons_zero, List.set_cons_succ, List.getElem?_cons_zero, List.getElem?_cons_succ, Option.toList_some, Option.toList_none, List.cons_append, List.nil_append, List.append_nil, List.length_cons, List.length_nil, List.replicate_succ, List.replicate_zero, Nat.reduceAdd, Nat.reduceSub]
    refine zz_ifnonnullN dX9_heaps_7 ?_
    try dsimp only [zz_s1, zz_s2, zz_kill, zz_ent, zz_fl, List.set_cons_zero, List.set_cons_succ, List.getElem?_cons_zero, List.getElem?_cons_succ, Option.toList_some, Option.toList_none, List.cons_append, List.nil_append, List.append_nil, List.length_cons, List.length_nil, List.replicate_succ, List.replicate_zero, Nat.reduceAdd, Nat.reduceSub]
    refine zz_bipush (v := (-2)) (by decide) dX9_heaps_10 ?_
    refine zz_ireturn dX9_heaps_12 rfl (by first | rfl | decide | assumption) ?_
    exact h2 hv
end PHeaps

