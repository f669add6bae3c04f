/-! ===== list: the calls ===== -/
def vld (B : Nat → Nat → Bool) (n l x : Nat) : Prop := ∀ s, s < 24 → fb_ct (fun a => x.testBit a && B a s) n ≤ l
/-- the least set of letters of those as large as can be -/
def lst (B : Nat → Nat → Bool) (n l x : Nat) : Prop := x < 2 ^ n ∧ vld B n l x ∧ (∀ y, y < 2 ^ n → vld B n l y → fb_ct y.testBit n ≤ fb_ct x.testBit n) ∧ ∀ y, y < 2 ^ n → vld B n l y → fb_ct y.testBit n = fb_ct x.testBit n → x ≤ y
theorem lst_one {B : Nat → Nat → Bool} {n l x y : Nat} (h : lst B n l x) (h2 : lst B n l y) : x = y := by
  have e : fb_ct y.testBit n = fb_ct x.testBit n := Nat.le_antisymm (h.2.2.1 y h2.1 h2.2.1) (h2.2.2.1 x h.1 h.2.1)
  exact Nat.le_antisymm (h.2.2.2 y h2.1 h2.2.1 e) (h2.2.2.2 x h.1 h.2.1 e.symm)
theorem pop_cut {x n m : Nat} (hx : x < 2 ^ n) (h : n ≤ m) : fb_ct x.testBit m = fb_ct x.testBit n := by
  have hs := fb_ct_split x.testBit n (m - n)
  rw [show n + (m - n) = m by omega] at hs
  have h0 : fb_ct (fun k => x.testBit (n + k)) (m - n) = 0 := fb_ct_zero.mpr (fun k _ => Nat.testBit_lt_two_pow (Nat.lt_of_lt_of_le hx (Nat.pow_le_pow_right (by decide) (by omega))))
  omega
theorem pop_I {x n : Nat} (hx : x < 2 ^ n) (h : n ≤ 16) : fb_ct (bt (nI x)) 32 = fb_ct x.testBit n := by
  rw [← pop_cut hx (show n ≤ 32 by omega)]
  exact fb_ct_cong (fun k hk => by rw [bt_nI]; simp [hk])
theorem pop_L {x n : Nat} (hx : x < 2 ^ n) (h : n ≤ 16) : fb_ct (bl (nI x).toInt64) 64 = fb_ct x.testBit n := by
  have hp : 2 ^ n ≤ 2 ^ 16 := Nat.pow_le_pow_right (by decide) h
  rw [← pop_cut hx (show n ≤ 64 by omega), nI_l (by omega)]
  exact fb_ct_cong (fun k hk => by rw [bl_lN]; simp [hk])
def RR (B : Nat → Nat → Bool) (st g R : Nat) : Prop := (∃ x, gdl B g (fun _ => st) R x) ∧ ∀ w x, gdl B g (fun _ => st) w x → w ≤ R
theorem RR_le {B : Nat → Nat → Bool} {st g R : Nat} (h : RR B st g R) : R ≤ g := by
  obtain ⟨⟨x, g1, g2, g3⟩, _⟩ := h
  rw [← g2]; exact fb_ct_le _ _
theorem RR_y {B : Nat → Nat → Bool} {st a R x : Nat} (h : RR B st a R) (g : gdl B a (cvp B (fun _ => st) a) R x) : RR B st (a + 1) (R + 1) := by
  refine ⟨⟨2 ^ a + x, (gdl_hi g.1).mpr g⟩, fun w y hy => ?_⟩
  rcases split2 hy.1 with z | ⟨x', z1, z2⟩
  · have := h.2 w y ((gdl_lo z).mp hy); omega
  · cases w with
    | zero => omega
    | succ w =>
      rw [z2] at hy
      have := h.2 w x' (gdl_mono (fun s _ => Nat.le_add_right _ _) ((gdl_hi z1).mp hy))
      omega
theorem RR_n {B : Nat → Nat → Bool} {st a R : Nat} (h : RR B st a R) (g : ∀ x, ¬ gdl B a (cvp B (fun _ => st) a) R x) : RR B st (a + 1) R := by
  obtain ⟨⟨x, hx⟩, h2⟩ := h
  refine ⟨⟨x, (gdl_lo hx.1).mpr hx⟩, fun w y hy => ?_⟩
  rcases split2 hy.1 with z | ⟨x', z1, z2⟩
  · exact h2 w y ((gdl_lo z).mp hy)
  · cases w with
    | zero => omega
    | succ w =>
      rw [z2] at hy
      have g1 := (gdl_hi z1).mp hy
      have := h2 w x' (gdl_mono (fun s _ => Nat.le_add_right _ _) g1)
      have : w ≠ R := fun e => g x' (e ▸ g1)
      omega
section PList
variable {M : zz_M} {I : zz_I} {J : zz_J} {Q : zz_Q}
theorem sp_leastGreatest (d : Nat) (hO : OK M) {j n l : Nat} {sg : Nat → Int32} (hj : j < 8) (hn : n ≤ 16) (hl1 : 1 ≤ l) (hl : l ≤ 24) (hc1 : I (LN j) 1 = nI n) (hc2 : ∀ a, a < 24 → I (LN j + 2) a = sg a) (hQ : ∀ (I' : zz_I) (J' : zz_J) (x : Nat), (∀ c, c ≠ 23 → I' c = I c) → (∀ c, c ≠ 21 → c ≠ 22 → J' c = J c) → lst (fun a s => bt (sg a) s) n l x → Q (some (.int (nI x))) M I' J') : zz_D mX4_leastGreatest (d + 18) [.ref 20, .ref (LN j), .int (nI l)] M I J Q := by
  have hL8 : 26 < LN j := by unfold LN; omega
  have hpn : 2 ^ n ≤ 2 ^ 16 := Nat.pow_le_pow_right (by decide) hn
  have hp0 := Nat.two_pow_pos n
  refine zz_D_of rfl (Nat.le_of_ble_eq_true rfl) ?_
  try dsimp only [zz_s1, zz_s2, zz_kill, zz_ent, zz_fl, List.set_cons_zero, List.set_cons_succ, List.getElem?_cons_zero, List.getElem?_cons_succ, Option.toList_some, Option.toList_none, List.cons_append, List.nil_append, List.append_nil, List.length_cons, List.length_nil, List.replicate_succ, List.replicate_zero, Nat.reduceAdd, Nat.reduceSub]
  refine zz_aload_n rfl dX4_leastGreatest_0 ?_
  refine zz_geti dX4_leastGreatest_1 fX4_22 rfl (ol_obj hO hj) ?_
  refine zz_bipush (v := 16) (by decide) dX4_leastGreatest_4 ?_
  try dsimp only [zz_s1, zz_s2, zz_kill, zz_ent, zz_fl, List.set_cons_zero, List.set_cons_succ, List.getElem?_cons_zero, List.getElem?_cons_succ, Option.toList_some, Option.toList_none, List.cons_append, List.nil_append, List.append_nil, List.length_cons, List.length_nil, List.replicate_succ, List.replicate_zero, Nat.reduceAdd, Nat.reduceSub]
  rw [hc1]
  refine zz_mmin dX4_leastGreatest_6 lX4_28 (Nat.le_of_ble_eq_true rfl) ?_
  try dsimp only [zz_s1, zz_s2, zz_kill, zz_ent, zz_fl, List.set_cons_zero, List.set_cons_succ, List.getElem?_cons_zero, List.getElem?_cons_succ, Option.toList_some, Option.toList_none, List.cons_append, List.nil_append, List.append_nil, List.length_cons, List.length_nil, List.replicate_succ, List.replicate_zero, Nat.reduceAdd, Nat.reduceSub]
  rw [show (if (16 : Int32) < nI n then (16 : Int32) else nI n) = nI n from if_neg (Int32.not_lt.mpr (nI_le (b := 16) hn (by decide)))]
  refine zz_istore_n dX4_leastGreatest_9 (by decide) ?_
  refine zz_iload_n rfl dX4_leastGreatest_10 ?_
  refine zz_iload_n rfl dX4_leastGreatest_11 ?_
  try dsimp only [zz_s1, zz_s2, zz_kill, zz_ent, zz_fl, List.set_cons_zero, List.set_cons_succ, List.getElem?_cons_zero, List.getElem?_cons_succ, Option.toList_some, Option.toList_none, List.cons_append, List.nil_append, List.append_nil, List.length_cons, List.length_nil, List.replicate_succ, List.replicate_zero, Nat.reduceAdd, Nat.reduceSub]
  refine zz_icmp_lt (tgt := 21) dX4_leastGreatest_12 (by decide) (fun h => ?_) (fun h => ?_)
  rotate_left
  · refine zz_iconst (v := 1) (by decide) dX4_leastGreatest_15 ?_
    refine zz_iload_n rfl dX4_leastGreatest_16 ?_
    refine zz_ishl dX4_leastGreatest_17 ?_
    refine zz_iconst (v := 1) (by decide) dX4_leastGreatest_18 ?_
    refine zz_isub dX4_leastGreatest_19 ?_
    refine zz_ireturn dX4_leastGreatest_20 rfl (by first | rfl | decide | assumption) ?_
    have hnl : n ≤ l := Nat.le_of_not_lt fun z => h (nI_lt z (by omega))
    rw [shl1 (by omega), show nI (2 ^ n) - 1 = nI (2 ^ n - 1) from pk_sub (b := 1) hp0]
    have hb : ∀ i, (2 ^ n - 1).testBit i = decide (i < n) := fun i => Nat.testBit_two_pow_sub_one n i
    have hct : fb_ct (2 ^ n - 1).testBit n = n := fb_ct_all.mpr (fun k hk => by rw [hb]; simp [hk])
    refine hQ I J (2 ^ n - 1) (fun _ _ => rfl) (fun _ _ _ => rfl) ⟨by omega, fun s _ => Nat.le_trans (fb_ct_le _ _) hnl, fun y _ _ => by rw [hct]; exact fb_ct_le _ _, fun y hy _ he => ?_⟩
    rw [hct] at he
    have ha := fb_ct_all.mp he
    refine Nat.le_of_eq (Nat.eq_of_testBit_eq fun i => ?_)
    rw [hb]
    by_cases c : i < n
    · simp [c, ha i c]
    · rw [Nat.testBit_lt_two_pow (Nat.lt_of_lt_of_le hy (Nat.pow_le_pow_right (by decide) (by omega)))]
      simp [c]
  have hln : l < n := (nI_ltI (by omega) (by omega)).mp h
  generalize hst : 15 - l = st
  have hst15 : st ≤ 14 := by omega
  refine zz_ldc2 tX4_34 dX4_leastGreatest_21 ?_
  refine zz_bipush (v := 15) (by decide) dX4_leastGreatest_24 ?_
  refine zz_iload_n rfl dX4_leastGreatest_26 ?_
  refine zz_isub dX4_leastGreatest_27 ?_
  refine zz_i2l dX4_leastGreatest_28 ?_
  refine zz_lmul dX4_leastGreatest_29 ?_
  refine zz_lstore dX4_leastGreatest_30 (by decide) ?_
  refine zz_aload_n rfl dX4_leastGreatest_32 ?_
  refine zz_getr dX4_leastGreatest_33 fX4_18 (fun _ _ _ _ => rfl) (os_20 hO) (or_20_2 hO) ?_
  refine zz_iconst (v := 0) (by decide) dX4_leastGreatest_36 ?_
  refine zz_iconst (v := 0) (by decide) dX4_leastGreatest_37 ?_
  refine zz_iast dX4_leastGreatest_38 (os_23 hO) (vp_in_nI (n := 0) (by decide) (by decide)) ?_
  refine zz_iconst (v := 0) (by decide) dX4_leastGreatest_39 ?_
  refine zz_istore dX4_leastGreatest_40 (by decide) ?_
  try dsimp only [zz_s1, zz_s2, zz_kill, zz_ent, zz_fl, List.set_cons_zero, List.set_cons_succ, List.getElem?_cons_zero, List.getElem?_cons_succ, Option.toList_some, Option.toList_none, List.cons_append, List.nil_append, List.append_nil, List.length_cons, List.length_nil, List.replicate_succ, List.replicate_zero, Nat.reduceAdd, Nat.reduceSub]
  rw [show (15 : Int32) - nI l = nI st from by rw [← hst]; exact pk_sub (a := 15) (b := l) (by omega), nI_l (by omega), show (37191016277640225 : Int64) = lN (pkc (fun _ => 1) 12) by decide +kernel, lN_mul, pkc_mul]
  rw [show (fun i : Nat => (fun _ : Nat => 1) i * st) = (fun _ => st) from funext fun _ => Nat.one_mul st]
  have srch : ∀ (f : Nat), f ≤ n → ∀ (Ix : zz_I) (Jx : zz_J) (Q' : zz_Q) (cv : Nat → Nat) (w : Nat), (∀ s, s < 24 → cv s ≤ 15) → (∀ s, s < 24 → st ≤ cv s) → (∀ b, b < f → Jx 21 b = lN (pkc (fun i => b2n (bt (sg b) i)) 12) ∧ Jx 22 b = lN (pkc (fun i => b2n (bt (sg b) (12 + i))) 12)) → (∀ g, g ≤ f → ∃ R, Ix 23 g = nI R ∧ RR (fun a s => bt (sg a) s) st g R) → w ≤ 17 → ((∀ x, ¬ gdl (fun a s => bt (sg a) s) f cv w x) → Q' (some (.int (-1))) M Ix Jx) → (∀ x, gdl (fun a s => bt (sg a) s) f cv w x → (∀ y, gdl (fun a s => bt (sg a) s) f cv w y → x ≤ y) → Q' (some (.int (nI x))) M Ix Jx) → zz_D mX4_search (d + 17) [.ref 20, .int (nI f), .long (lN (pkc cv 12)), .long (lN (pkc (fun i => cv (12 + i)) 12)), .int (nI w)] M Ix Jx Q' := by
    intro f hf Ix Jx Q' cv w k1 k2 k3 k4 k5 k6 k7
    have := sp_search (B := fun a s => bt (sg a) s) hO f (by omega) (d + 16 - f) Ix Jx Q' cv w k1 k2 k3 (fun g _ g2 => by
      obtain ⟨R, r1, r2⟩ := k4 g g2
      exact ⟨R, r1, by have := RR_le r2; omega, r2.2⟩) k5 k6 k7
    rwa [show d + 16 - f + f + 1 = d + 17 by omega] at this
  have loop : ∀ (q a : Nat) (Ix : zz_I) (Jx : zz_J) (z7 : Option Value), a + q = n → (∀ c, c ≠ 23 → Ix c = I c) → (∀ c, c ≠ 21 → c ≠ 22 → Jx c = J c) → (∀ b, b < a → Jx 21 b = lN (pkc (fun i => b2n (bt (sg b) i)) 12) ∧ Jx 22 b = lN (pkc (fun i => b2n (bt (sg b) (12 + i))) 12)) → (∀ g, g ≤ a → ∃ R, Ix 23 g = nI R ∧ RR (fun a s => bt (sg a) s) st g R) → zz_G mX4_leastGreatest (d + 18) 0 42 [some (.ref 20), some (.ref (LN j)), some (.int (nI l)), some (.int (nI n)), some (.long (lN (pkc (fun _ => st) 12))), none, some (.int (nI a)), z7] [] M Ix Jx Q := by
    intro q
    induction q with
    | zero =>
      intro a Ix Jx z7 ha f1 f2 f3 f4
      have e : a = n := by omega
      subst e
      obtain ⟨R, r1, r2⟩ := f4 a (Nat.le_refl _)
      have hRa := RR_le r2
      refine zz_iload rfl dX4_leastGreatest_42 ?_
      refine zz_iload_n rfl dX4_leastGreatest_44 ?_
      try dsimp only [zz_s1, zz_s2, zz_kill, zz_ent, zz_fl, List.set_cons_zero, List.set_cons_succ, List.getElem?_cons_zero, List.getElem?_cons_succ, Option.toList_some, Option.toList_none, List.cons_append, List.nil_append, List.append_nil, List.length_cons, List.length_nil, List.replicate_succ, List.replicate_zero, Nat.reduceAdd, Nat.reduceSub]
      refine zz_icmp_ge (tgt := 167) dX4_leastGreatest_45 (by decide) (fun h2 => ?_) (fun h2 => ?_)
      · refine zz_aload_n rfl dX4_leastGreatest_167 ?_
        refine zz_iload_n rfl dX4_leastGreatest_168 ?_
        refine zz_lload rfl dX4_leastGreatest_169 ?_
        refine zz_lload rfl dX4_leastGreatest_171 ?_
        refine zz_aload_n rfl dX4_leastGreatest_173 ?_
        refine zz_getr dX4_leastGreatest_174 fX4_18 (fun _ _ _ _ => rfl) (os_20 hO) (or_20_2 hO) ?_
        refine zz_iload_n rfl dX4_leastGreatest_177 ?_
        refine zz_iald dX4_leastGreatest_178 (os_23 hO) (vp_in_nI (show a < 17 by omega) (by decide)) ?_
        try dsimp only [zz_s1, zz_s2, zz_kill, zz_ent, zz_fl, List.set_cons_zero, List.set_cons_succ, List.getElem?_cons_zero, List.getElem?_cons_succ, Option.toList_some, Option.toList_none, List.cons_append, List.nil_append, List.append_nil, List.length_cons, List.length_nil, List.replicate_succ, List.replicate_zero, Nat.reduceAdd, Nat.reduceSub]
        rw [nI_clamp (show a < 2 ^ 31 by omega), r1]
        refine zz_cV4 dX4_leastGreatest_179 lX4_43 rfl (os_20 hO) rfl rfl (Nat.le_of_ble_eq_true rfl) (Nat.le_of_ble_eq_true rfl) ?_
        refine srch a (Nat.le_refl _) Ix Jx _ (fun _ => st) R (fun _ _ => by omega) (fun _ _ => Nat.le_refl _) f3 f4 (by omega) (fun hno => ?_) (fun x hx hle => ?_)
        · obtain ⟨x, hx⟩ := r2.1
          exact absurd hx (hno x)
        · try dsimp only [zz_s1, zz_s2, zz_kill, zz_ent, zz_fl, List.set_cons_zero, List.set_cons_succ, List.getElem?_cons_zero, List.getElem?_cons_succ, Option.toList_some, Option.toList_none, List.cons_append, List.nil_append, List.append_nil, List.length_cons, List.length_nil, List.replicate_succ, List.replicate_zero, Nat.reduceAdd, Nat.reduceSub]
          refine zz_ireturn dX4_leastGreatest_182 rfl (by first | rfl | decide | assumption) ?_
          have tog : ∀ y, y < 2 ^ a → vld (fun a s => bt (sg a) s) a l y → gdl (fun a s => bt (sg a) s) a (fun _ => st) (fb_ct y.testBit a) y := fun y hy hv => ⟨hy, rfl, fun s hs => by have : fb_ct (fun a => y.testBit a && bt (sg a) s) _ ≤ l := hv s hs; show st + fb_ct (fun a => y.testBit a && bt (sg a) s) _ ≤ 15; omega⟩
          refine hQ Ix Jx x f1 f2 ⟨hx.1, fun s hs => ?_, fun y hy hv => ?_, fun y hy hv he => ?_⟩
          · have := hx.2.2 s hs
            have : st + fb_ct (fun a => x.testBit a && bt (sg a) s) a ≤ 15 := this
            show fb_ct (fun a => x.testBit a && bt (sg a) s) a ≤ l
            omega
          · rw [hx.2.1]; exact r2.2 _ _ (tog y hy hv)
          · refine hle y ?_
            have := tog y hy hv
            rwa [he, hx.2.1] at this
      · exact absurd (nI_le (Nat.le_refl a) (by omega)) h2
    | succ q ih =>
      intro a Ix Jx z7 ha f1 f2 f3 f4
      obtain ⟨R, r1, r2⟩ := f4 a (Nat.le_refl _)
      have hRa := RR_le r2
      have esg : ∀ Iy : zz_I, (∀ c, c ≠ 23 → Iy c = I c) → Iy (LN j + 2) a = sg a := fun Iy hy => by rw [hy _ (by omega)]; exact hc2 a (by omega)
      have va16 : vp_in (nI a) 16 := vp_in_nI (by omega) (by decide)
      have va17 : vp_in (nI a) 17 := vp_in_nI (by omega) (by decide)
      have va24 : vp_in (nI a) 24 := vp_in_nI (by omega) (by decide)
      have cla : (nI a).toNatClampNeg = a := nI_clamp (by omega)
      refine zz_iload rfl dX4_leastGreatest_42 ?_
      refine zz_iload_n rfl dX4_leastGreatest_44 ?_
      try dsimp only [zz_s1, zz_s2, zz_kill, zz_ent, zz_fl, List.set_cons_zero, List.set_cons_succ, List.getElem?_cons_zero, List.getElem?_cons_succ, Option.toList_some, Option.toList_none, List.cons_append, List.nil_append, List.append_nil, List.length_cons, List.length_nil, List.replicate_succ, List.replicate_zero, Nat.reduceAdd, Nat.reduceSub]
      refine zz_icmp_ge (tgt := 167) dX4_leastGreatest_45 (by decide) (fun h2 => ?_) (fun h2 => ?_)
      · exact absurd h2 (nI_ge (by omega) (by omega))
      refine zz_aload_n rfl dX4_leastGreatest_48 ?_
      refine zz_getr dX4_leastGreatest_49 fX4_11 (fun _ _ _ _ => rfl) (os_20 hO) (or_20_0 hO) ?_
      refine zz_iload rfl dX4_leastGreatest_52 ?_
      refine zz_aload_n rfl dX4_leastGreatest_54 ?_
      refine zz_getr dX4_leastGreatest_55 fX4_36 (fun _ _ _ _ => rfl) (ol_obj hO hj) (olr_signs hO hj) ?_
      refine zz_iload rfl dX4_leastGreatest_58 ?_
      refine zz_iald dX4_leastGreatest_60 (ol_signs hO hj) va24 ?_
      try dsimp only [zz_s1, zz_s2, zz_kill, zz_ent, zz_fl, List.set_cons_zero, List.set_cons_succ, List.getElem?_cons_zero, List.getElem?_cons_succ, Option.toList_some, Option.toList_none, List.cons_append, List.nil_append, List.append_nil, List.length_cons, List.length_nil, List.replicate_succ, List.replicate_zero, Nat.reduceAdd, Nat.reduceSub]
      rw [cla, esg Ix f1]
      refine zz_cS1 dX4_leastGreatest_61 lX4_39 rfl (Nat.le_of_ble_eq_true rfl) (Nat.le_of_ble_eq_true rfl) ?_
      refine sp_spread (d + 17) ?_
      try dsimp only [zz_s1, zz_s2, zz_kill, zz_ent, zz_fl, List.set_cons_zero, List.set_cons_succ, List.getElem?_cons_zero, List.getElem?_cons_succ, Option.toList_some, Option.toList_none, List.cons_append, List.nil_append, List.append_nil, List.length_cons, List.length_nil, List.replicate_succ, List.replicate_zero, Nat.reduceAdd, Nat.reduceSub]
      refine zz_last dX4_leastGreatest_64 (os_21 hO) va16 ?_
      refine zz_aload_n rfl dX4_leastGreatest_65 ?_
      refine zz_getr dX4_leastGreatest_66 fX4_15 (fun _ _ _ _ => rfl) (os_20 hO) (or_20_1 hO) ?_
      refine zz_iload rfl dX4_leastGreatest_69 ?_
      refine zz_aload_n rfl dX4_leastGreatest_71 ?_
      refine zz_getr dX4_leastGreatest_72 fX4_36 (fun _ _ _ _ => rfl) (ol_obj hO hj) (olr_signs hO hj) ?_
      refine zz_iload rfl dX4_leastGreatest_75 ?_
      refine zz_iald dX4_leastGreatest_77 (ol_signs hO hj) va24 ?_
      refine zz_bipush (v := 12) (by decide) dX4_leastGreatest_78 ?_
      refine zz_iushr dX4_leastGreatest_80 ?_
      try dsimp only [zz_s1, zz_s2, zz_kill, zz_ent, zz_fl, List.set_cons_zero, List.set_cons_succ, List.getElem?_cons_zero, List.getElem?_cons_succ, Option.toList_some, Option.toList_none, List.cons_append, List.nil_append, List.append_nil, List.length_cons, List.length_nil, List.replicate_succ, List.replicate_zero, Nat.reduceAdd, Nat.reduceSub]
      rw [cla, esg Ix f1]
      refine zz_cS1 dX4_leastGreatest_81 lX4_39 rfl (Nat.le_of_ble_eq_true rfl) (Nat.le_of_ble_eq_true rfl) ?_
      refine sp_spread (d + 17) ?_
      try dsimp only [zz_s1, zz_s2, zz_kill, zz_ent, zz_fl, List.set_cons_zero, List.set_cons_succ, List.getElem?_cons_zero, List.getElem?_cons_succ, Option.toList_some, Option.toList_none, List.cons_append, List.nil_append, List.append_nil, List.length_cons, List.length_nil, List.replicate_succ, List.replicate_zero, Nat.reduceAdd, Nat.reduceSub]
      have eb : (fun i => b2n (bt (jv_ushr (sg a) 12) i)) = fun i => b2n (bt (sg a) (12 + i)) := funext fun i => by
        have := b_ushr 12 (by decide) (sg a) i
        exact congrArg b2n this
      rw [eb]
      refine zz_last dX4_leastGreatest_84 (os_22 hO) va16 ?_
      refine zz_aload_n rfl dX4_leastGreatest_85 ?_
      refine zz_iload rfl dX4_leastGreatest_86 ?_
      refine zz_lload rfl dX4_leastGreatest_88 ?_
      refine zz_aload_n rfl dX4_leastGreatest_90 ?_
      refine zz_getr dX4_leastGreatest_91 fX4_11 (fun _ _ _ _ => rfl) (os_20 hO) (or_20_0 hO) ?_
      refine zz_iload rfl dX4_leastGreatest_94 ?_
      refine zz_lald dX4_leastGreatest_96 (os_21 hO) va16 ?_
      refine zz_ladd dX4_leastGreatest_97 ?_
      refine zz_lload rfl dX4_leastGreatest_98 ?_
      refine zz_aload_n rfl dX4_leastGreatest_100 ?_
      refine zz_getr dX4_leastGreatest_101 fX4_15 (fun _ _ _ _ => rfl) (os_20 hO) (or_20_1 hO) ?_
      refine zz_iload rfl dX4_leastGreatest_104 ?_
      refine zz_lald dX4_leastGreatest_106 (os_22 hO) va16 ?_
      refine zz_ladd dX4_leastGreatest_107 ?_
      refine zz_aload_n rfl dX4_leastGreatest_108 ?_
      refine zz_getr dX4_leastGreatest_109 fX4_18 (fun _ _ _ _ => rfl) (os_20 hO) (or_20_2 hO) ?_
      refine zz_iload rfl dX4_leastGreatest_112 ?_
      refine zz_iald dX4_leastGreatest_114 (os_23 hO) va17 ?_
      try dsimp only [zz_s1, zz_s2, zz_kill, zz_ent, zz_fl, List.set_cons_zero, List.set_cons_succ, List.getElem?_cons_zero, List.getElem?_cons_succ, Option.toList_some, Option.toList_none, List.cons_append, List.nil_append, List.append_nil, List.length_cons, List.length_nil, List.replicate_succ, List.replicate_zero, Nat.reduceAdd, Nat.reduceSub]
      rw [cla, r1]
      generalize hJ1 : zz_uj (zz_uj Jx 21 a (lN (pkc (fun i => b2n (bt (sg a) i)) 12))) 22 a (lN (pkc (fun i => b2n (bt (sg a) (12 + i))) 12)) = J1
      have j19 : J1 21 a = lN (pkc (fun i => b2n (bt (sg a) i)) 12) := by rw [← hJ1, zz_uj_ne _ _ _ (by decide), zz_uj_at, pk_uLs]
      have j20 : J1 22 a = lN (pkc (fun i => b2n (bt (sg a) (12 + i))) 12) := by rw [← hJ1, zz_uj_at, pk_uLs]
      have jfr : ∀ c, c ≠ 21 → c ≠ 22 → J1 c = J c := fun c c1 c2 => by rw [← hJ1, zz_uj_ne _ _ _ c2, zz_uj_ne _ _ _ c1]; exact f2 c c1 c2
      have jold : ∀ b, b < a + 1 → J1 21 b = lN (pkc (fun i => b2n (bt (sg b) i)) 12) ∧ J1 22 b = lN (pkc (fun i => b2n (bt (sg b) (12 + i))) 12) := fun b hb => by
        by_cases e : b = a
        · rw [e]; exact ⟨j19, j20⟩
        · have := f3 b (by omega)
          rw [← hJ1, zz_uj_ne _ _ _ (by decide), zz_uj_at, zz_uj_at, pk_uLn e, pk_uLn e, zz_uj_ne _ _ _ (by decide)]
          exact this
      rw [j19, j20, lN_add, lN_add, pkc_add, pkc_add]
      have next : ∀ (R' : Nat) (z : Option Value), RR (fun a s => bt (sg a) s) st (a + 1) R' → zz_G mX4_leastGreatest (d + 18) 0 42 [some (.ref 20), some (.ref (LN j)), some (.int (nI l)), some (.int (nI n)), some (.long (lN (pkc (fun _ => st) 12))), none, some (.int (nI (a + 1))), z] [] M (zz_ui Ix 23 (a + 1) (nI R')) J1 Q := by
        intro R' z hR'
        refine ih (a + 1) _ J1 _ (by omega) (fun c c1 => ?_) jfr jold (fun g hg => ?_)
        · rw [zz_ui_ne _ _ _ c1]; exact f1 c c1
        · by_cases e : g = a + 1
          · rw [e]; exact ⟨R', by rw [zz_ui_at, pk_us], hR'⟩
          · obtain ⟨R2, q1, q2⟩ := f4 g (by omega)
            exact ⟨R2, by rw [zz_ui_at, pk_un e]; exact q1, q2⟩
      have va1 : vp_in (nI a + 1) 17 := by rw [nI_1]; exact vp_in_nI (by omega) (by decide)
      have cla1 : (nI a + 1).toNatClampNeg = a + 1 := by rw [nI_1]; exact nI_clamp (by omega)
      refine zz_cV4 dX4_leastGreatest_115 lX4_43 rfl (os_20 hO) rfl rfl (Nat.le_of_ble_eq_true rfl) (Nat.le_of_ble_eq_true rfl) ?_
      refine srch a (by omega) Ix J1 _ (cvp (fun a s => bt (sg a) s) (fun _ => st) a) R (fun s _ => ?_) (fun _ _ => Nat.le_add_right _ _) (fun b hb => jold b (by omega)) f4 (by omega) (fun hno => ?_) (fun x hx hle => ?_)
      · show st + b2n (bt (sg a) s) ≤ 15
        unfold b2n
        split <;> omega
      · try dsimp only [zz_s1, zz_s2, zz_kill, zz_ent, zz_fl, List.set_cons_zero, List.set_cons_succ, List.getElem?_cons_zero, List.getElem?_cons_succ, Option.toList_some, Option.toList_none, List.cons_append, List.nil_append, List.append_nil, List.length_cons, List.length_nil, List.replicate_succ, List.replicate_zero, Nat.reduceAdd, Nat.reduceSub]
        refine zz_if_lt (tgt := 125) dX4_leastGreatest_118 (by decide) (fun h3 => ?_) (fun h3 => ?_)
        · refine zz_iconst (v := 0) (by decide) dX4_leastGreatest_125 ?_
          refine zz_istore dX4_leastGreatest_126 (by decide) ?_
          refine zz_aload_n rfl dX4_leastGreatest_128 ?_
          refine zz_getr dX4_leastGreatest_129 fX4_18 (fun _ _ _ _ => rfl) (os_20 hO) (or_20_2 hO) ?_
          refine zz_iload rfl dX4_leastGreatest_132 ?_
          refine zz_iconst (v := 1) (by decide) dX4_leastGreatest_134 ?_
          refine zz_iadd dX4_leastGreatest_135 ?_
          refine zz_iload rfl dX4_leastGreatest_136 ?_
          try dsimp only [zz_s1, zz_s2, zz_kill, zz_ent, zz_fl, List.set_cons_zero, List.set_cons_succ, List.getElem?_cons_zero, List.getElem?_cons_succ, Option.toList_some, Option.toList_none, List.cons_append, List.nil_append, List.append_nil, List.length_cons, List.length_nil, List.replicate_succ, List.replicate_zero, Nat.reduceAdd, Nat.reduceSub]
          refine zz_if_eq (tgt := 153) dX4_leastGreatest_138 (by decide) (fun h4 => ?_) (fun h4 => ?_)
          · refine zz_aload_n rfl dX4_leastGreatest_153 ?_
            refine zz_getr dX4_leastGreatest_154 fX4_18 (fun _ _ _ _ => rfl) (os_20 hO) (or_20_2 hO) ?_
            refine zz_iload rfl dX4_leastGreatest_157 ?_
            refine zz_iald dX4_leastGreatest_159 (os_23 hO) va17 ?_
            refine zz_iast dX4_leastGreatest_160 (os_23 hO) va1 ?_
            refine zz_iinc dX4_leastGreatest_161 rfl (congrArg (HAdd.hAdd _) (show Int32.ofInt 1 = 1 by decide)) (by decide) ?_
            refine zz_goto (tgt := 42) dX4_leastGreatest_164 (by decide) ?_
            try dsimp only [zz_s1, zz_s2, zz_kill, zz_ent, zz_fl, List.set_cons_zero, List.set_cons_succ, List.getElem?_cons_zero, List.getElem?_cons_succ, Option.toList_some, Option.toList_none, List.cons_append, List.nil_append, List.append_nil, List.length_cons, List.length_nil, List.replicate_succ, List.replicate_zero, Nat.reduceAdd, Nat.reduceSub]
            rw [cla, cla1, r1, nI_1]
            exact next R _ (RR_n r2 hno)
          · exact absurd rfl h4
        · exact absurd (by decide) h3
      · try dsimp only [zz_s1, zz_s2, zz_kill, zz_ent, zz_fl, List.set_cons_zero, List.set_cons_succ, List.getElem?_cons_zero, List.getElem?_cons_succ, Option.toList_some, Option.toList_none, List.cons_append, List.nil_append, List.append_nil, List.length_cons, List.length_nil, List.replicate_succ, List.replicate_zero, Nat.reduceAdd, Nat.reduceSub]
        have hx2 : x < 2 ^ 31 := by
          have := hx.1
          have : 2 ^ a ≤ 2 ^ 16 := Nat.pow_le_pow_right (by decide) (by omega)
          omega
        refine zz_if_lt (tgt := 125) dX4_leastGreatest_118 (by decide) (fun h3 => ?_) (fun h3 => ?_)
        · exact absurd h3 (nI_nn hx2)
        · skip
          refine zz_iconst (v := 1) (by decide) dX4_leastGreatest_121 ?_
          refine zz_goto (tgt := 126) dX4_leastGreatest_122 (by decide) ?_
          refine zz_istore dX4_leastGreatest_126 (by decide) ?_
          refine zz_aload_n rfl dX4_leastGreatest_128 ?_
          refine zz_getr dX4_leastGreatest_129 fX4_18 (fun _ _ _ _ => rfl) (os_20 hO) (or_20_2 hO) ?_
          refine zz_iload rfl dX4_leastGreatest_132 ?_
          refine zz_iconst (v := 1) (by decide) dX4_leastGreatest_134 ?_
          refine zz_iadd dX4_leastGreatest_135 ?_
          refine zz_iload rfl dX4_leastGreatest_136 ?_
          try dsimp only [zz_s1, zz_s2, zz_kill, zz_ent, zz_fl, List.set_cons_zero, List.set_cons_succ, List.getElem?_cons_zero, List.getElem?_cons_succ, Option.toList_some, Option.toList_none, List.cons_append, List.nil_append, List.append_nil, List.length_cons, List.length_nil, List.replicate_succ, List.replicate_zero, Nat.reduceAdd, Nat.reduceSub]
          refine zz_if_eq (tgt := 153) dX4_leastGreatest_138 (by decide) (fun h4 => ?_) (fun h4 => ?_)
          · exact absurd h4 (by decide)
          · skip
            refine zz_aload_n rfl dX4_leastGreatest_141 ?_
            refine zz_getr dX4_leastGreatest_142 fX4_18 (fun _ _ _ _ => rfl) (os_20 hO) (or_20_2 hO) ?_
            refine zz_iload rfl dX4_leastGreatest_145 ?_
            refine zz_iald dX4_leastGreatest_147 (os_23 hO) va17 ?_
            refine zz_iconst (v := 1) (by decide) dX4_leastGreatest_148 ?_
            refine zz_iadd dX4_leastGreatest_149 ?_
            refine zz_goto (tgt := 160) dX4_leastGreatest_150 (by decide) ?_
            refine zz_iast dX4_leastGreatest_160 (os_23 hO) va1 ?_
            refine zz_iinc dX4_leastGreatest_161 rfl (congrArg (HAdd.hAdd _) (show Int32.ofInt 1 = 1 by decide)) (by decide) ?_
            refine zz_goto (tgt := 42) dX4_leastGreatest_164 (by decide) ?_
            try dsimp only [zz_s1, zz_s2, zz_kill, zz_ent, zz_fl, List.set_cons_zero, List.set_cons_succ, List.getElem?_cons_zero, List.getElem?_cons_succ, Option.toList_some, Option.toList_none, List.cons_append, List.nil_append, List.append_nil, List.length_cons, List.length_nil, List.replicate_succ, List.replicate_zero, Nat.reduceAdd, Nat.reduceSub]
            rw [cla, cla1, r1, nI_1, nI_1]
            exact next (R + 1) _ (RR_y r2 hx)
  refine loop n 0 _ _ _ (by omega) (fun c c1 => ?_) (fun _ _ _ => rfl) (fun b hb => by omega) (fun g hg => ⟨0, ?_, ?_⟩)
  · rw [zz_ui_ne _ _ _ c1]
  · have e : g = 0 := by omega
    rw [e, zz_ui_at]; exact pk_us
  · have e : g = 0 := by omega
    rw [e]
    exact ⟨⟨0, by decide, rfl, fun s _ => by show st + 0 ≤ 15; omega⟩, fun w x hx => by rw [← hx.2.1]; exact Nat.le_refl _⟩
variable {n : Nat → Nat} {kd ag : Nat → Int32} {E : Nat → Nat → Nat → Bool} {sg : Nat → Nat → Int32} {rw : Nat → Nat → Nat → Int32}
theorem sp_X9_list (d : Nat) (hO : OK M) {a b : Int32} (hC : ∀ j, j < 8 → CL I j (n j) (kd j) (ag j) (E j) (sg j) (rw j)) (hn : ∀ j, j < 8 → 1 ≤ n j ∧ n j ≤ 24)
    (h1 : ∀ j l, j < 8 → 1 ≤ l → l ≤ 24 → kd j = 1 → n j ≤ 16 → a = nI j → b = nI l → ∀ (I' : zz_I) (J' : zz_J) (x : Nat), (∀ c, c ≠ 1 → c ≠ 23 → I' c = I c) → (∀ i, i ≠ 13 → I' 1 i = I 1 i) → (∀ c, c ≠ 21 → c ≠ 22 → J' c = J c) → I' 1 13 = nI x → lst (fun a s => bt (sg j a) s) (n j) l x → Q (some (.int (nI (fb_ct x.testBit (n j))))) M I' J')
    (h2 : ∀ j l, j < 8 → 1 ≤ l → l ≤ 24 → kd j = 1 → ¬ n j ≤ 16 → a = nI j → b = nI l → Q (some (.int (-3))) M I J)
    (h3 : ∀ j l, j < 8 → 1 ≤ l → l ≤ 24 → ¬ kd j = 1 → a = nI j → b = nI l → Q (some (.int (-4))) M I J)
    (h4 : ¬ (∃ j l, j < 8 ∧ 1 ≤ l ∧ l ≤ 24 ∧ a = nI j ∧ b = nI l) → Q (some (.int (-2))) M I J) : zz_D mX9_list (d + 19) [.ref 1, .int a, .int b] M I J Q := by
  refine zz_D_of rfl (Nat.le_of_ble_eq_true rfl) ?_
  try dsimp only [zz_s1, zz_s2, zz_kill, zz_ent, zz_fl, List.set_cons_zero, List.set_cons_succ, List.getElem?_cons_zero, List.getElem?_cons_succ, Option.toList_some, Option.toList_none, List.cons_append, List.nil_append, List.append_nil, List.length_cons, List.length_nil, List.replicate_succ, List.replicate_zero, Nat.reduceAdd, Nat.reduceSub]
  refine zz_aload_n rfl dX9_list_0 ?_
  refine zz_iload_n rfl dX9_list_1 ?_
  try dsimp only [zz_s1, zz_s2, zz_kill, zz_ent, zz_fl, List.set_cons_zero, List.set_cons_succ, List.getElem?_cons_zero, List.getElem?_cons_succ, Option.toList_some, Option.toList_none, List.cons_append, List.nil_append, List.append_nil, List.length_cons, List.length_nil, List.replicate_succ, List.replicate_zero, Nat.reduceAdd, Nat.reduceSub]
  refine zz_cV1 dX9_list_2 lX9_100 rfl (os_1 hO) rfl rfl (Nat.le_of_ble_eq_true rfl) (Nat.le_of_ble_eq_true rfl) ?_
  refine sp_lineAt (d + 18) hO (fun j hj e => ?_) (fun hv => ?_)
  try dsimp only [zz_s1, zz_s2, zz_kill, zz_ent, zz_fl, List.set_cons_zero, List.set_cons_succ, List.getElem?_cons_zero, List.getElem?_cons_succ, Option.toList_some, Option.toList_none, List.cons_append, List.nil_append, List.append_nil, List.length_cons, List.length_nil, List.replicate_succ, List.replicate_zero, Nat.reduceAdd, Nat.reduceSub]
  · have hc := hC j hj
    have hnj := hn j hj
    have hL8 : 26 < LN j := by unfold LN; omega
    refine zz_astore_n dX9_list_5 (by decide) ?_
    refine zz_aload_n rfl dX9_list_6 ?_
    try dsimp only [zz_s1, zz_s2, zz_kill, zz_ent, zz_fl, List.set_cons_zero, List.set_cons_succ, List.getElem?_cons_zero, List.getElem?_cons_succ, Option.toList_some, Option.toList_none, List.cons_append, List.nil_append, List.append_nil, List.length_cons, List.length_nil, List.replicate_succ, List.replicate_zero, Nat.reduceAdd, Nat.reduceSub]
    refine zz_ifnull dX9_list_7 ?_
    try dsimp only [zz_s1, zz_s2, zz_kill, zz_ent, zz_fl, List.set_cons_zero, List.set_cons_succ, List.getElem?_cons_zero, List.getElem?_cons_succ, Option.toList_some, Option.toList_none, List.cons_append, List.nil_append, List.append_nil, List.length_cons, List.length_nil, List.replicate_succ, List.replicate_zero, Nat.reduceAdd, Nat.reduceSub]
    refine zz_iload_n rfl dX9_list_10 ?_
    refine zz_iconst (v := 1) (by decide) dX9_list_11 ?_
    try dsimp only [zz_s1, zz_s2, zz_kill, zz_ent, zz_fl, List.set_cons_zero, List.set_cons_succ, List.getElem?_cons_zero, List.getElem?_cons_succ, Option.toList_some, Option.toList_none, List.cons_append, List.nil_append, List.append_nil, List.length_cons, List.length_nil, List.replicate_succ, List.replicate_zero, Nat.reduceAdd, Nat.reduceSub]
    refine zz_icmp_lt (tgt := 21) dX9_list_12 (by decide) (fun q1 => ?_) (fun q1 => ?_)
    · refine zz_bipush (v := (-2)) (by decide) dX9_list_21 ?_
      refine zz_ireturn dX9_list_23 rfl (by first | rfl | decide | assumption) ?_
      exact h4 (fun ⟨j', l, a1, a2, a3, a4, a5⟩ => i32l (n := 24) q1 (by decide) (by decide) ⟨l, a2, a3, a5⟩)
    refine zz_iload_n rfl dX9_list_15 ?_
    refine zz_bipush (v := 24) (by decide) dX9_list_16 ?_
    try dsimp only [zz_s1, zz_s2, zz_kill, zz_ent, zz_fl, List.set_cons_zero, List.set_cons_succ, List.getElem?_cons_zero, List.getElem?_cons_succ, Option.toList_some, Option.toList_none, List.cons_append, List.nil_append, List.append_nil, List.length_cons, List.length_nil, List.replicate_succ, List.replicate_zero, Nat.reduceAdd, Nat.reduceSub]
    refine zz_icmp_le (tgt := 24) dX9_list_18 (by decide) (fun q2 => ?_) (fun q2 => ?_)
    rotate_left
    · refine zz_bipush (v := (-2)) (by decide) dX9_list_21 ?_
      refine zz_ireturn dX9_list_23 rfl (by first | rfl | decide | assumption) ?_
      exact h4 (fun ⟨j', l, a1, a2, a3, a4, a5⟩ => i32g (n := 24) (Int32.not_le.mp q2) (by decide) (by decide) ⟨l, a2, a3, a5⟩)
    obtain ⟨l, l1, l2, rfl⟩ := i32r (n := 24) q1 (Int32.not_lt.mpr q2) (by decide) (by decide) (by decide)
    refine zz_aload_n rfl dX9_list_24 ?_
    refine zz_geti dX9_list_25 fX9_111 rfl (ol_obj hO hj) ?_
    refine zz_iconst (v := 1) (by decide) dX9_list_28 ?_
    try dsimp only [zz_s1, zz_s2, zz_kill, zz_ent, zz_fl, List.set_cons_zero, List.set_cons_succ, List.getElem?_cons_zero, List.getElem?_cons_succ, Option.toList_some, Option.toList_none, List.cons_append, List.nil_append, List.append_nil, List.length_cons, List.length_nil, List.replicate_succ, List.replicate_zero, Nat.reduceAdd, Nat.reduceSub]
    rw [hc.1]
    refine zz_icmp_eq (tgt := 35) dX9_list_29 (by decide) (fun q3 => ?_) (fun q3 => ?_)
    rotate_left
    · refine zz_bipush (v := (-4)) (by decide) dX9_list_32 ?_
      refine zz_ireturn dX9_list_34 rfl (by first | rfl | decide | assumption) ?_
      exact h3 j l hj l1 l2 q3 e rfl
    refine zz_aload_n rfl dX9_list_35 ?_
    refine zz_geti dX9_list_36 fX9_144 rfl (ol_obj hO hj) ?_
    refine zz_bipush (v := 16) (by decide) dX9_list_39 ?_
    try dsimp only [zz_s1, zz_s2, zz_kill, zz_ent, zz_fl, List.set_cons_zero, List.set_cons_succ, List.getElem?_cons_zero, List.getElem?_cons_succ, Option.toList_some, Option.toList_none, List.cons_append, List.nil_append, List.append_nil, List.length_cons, List.length_nil, List.replicate_succ, List.replicate_zero, Nat.reduceAdd, Nat.reduceSub]
    rw [hc.2.1]
    refine zz_icmp_le (tgt := 47) dX9_list_41 (by decide) (fun q4 => ?_) (fun q4 => ?_)
    rotate_left
    · refine zz_bipush (v := (-3)) (by decide) dX9_list_44 ?_
      refine zz_ireturn dX9_list_46 rfl (by first | rfl | decide | assumption) ?_
      exact h2 j l hj l1 l2 q3 (fun z => q4 (nI_le (b := 16) z (by decide))) e rfl
    have hn16 : n j ≤ 16 := (nI_leI (b := 16) (by omega) (by decide)).mp q4
    have hp : 2 ^ n j ≤ 2 ^ 16 := Nat.pow_le_pow_right (by decide) hn16
    refine zz_aload_n rfl dX9_list_47 ?_
    refine zz_aload_n rfl dX9_list_48 ?_
    refine zz_getr dX9_list_49 fX9_64 (fun _ _ _ _ => rfl) (os_1 hO) (or_1_8 hO) ?_
    refine zz_aload_n rfl dX9_list_52 ?_
    refine zz_iload_n rfl dX9_list_53 ?_
    try dsimp only [zz_s1, zz_s2, zz_kill, zz_ent, zz_fl, List.set_cons_zero, List.set_cons_succ, List.getElem?_cons_zero, List.getElem?_cons_succ, Option.toList_some, Option.toList_none, List.cons_append, List.nil_append, List.append_nil, List.length_cons, List.length_nil, List.replicate_succ, List.replicate_zero, Nat.reduceAdd, Nat.reduceSub]
    refine zz_cV2 dX9_list_54 lX9_270 rfl (os_20 hO) rfl rfl (Nat.le_of_ble_eq_true rfl) (Nat.le_of_ble_eq_true rfl) ?_
    refine sp_leastGreatest d hO hj hn16 l1 l2 hc.2.1 hc.2.2.2.2.1 (fun I' J' x k1 k2 k3 => ?_)
    try dsimp only [zz_s1, zz_s2, zz_kill, zz_ent, zz_fl, List.set_cons_zero, List.set_cons_succ, List.getElem?_cons_zero, List.getElem?_cons_succ, Option.toList_some, Option.toList_none, List.cons_append, List.nil_append, List.append_nil, List.length_cons, List.length_nil, List.replicate_succ, List.replicate_zero, Nat.reduceAdd, Nat.reduceSub]
    refine zz_puti dX9_list_57 fX9_85 rfl (fun q h => by cases h; rfl) (os_1 hO) ?_
    refine zz_aload_n rfl dX9_list_60 ?_
    refine zz_geti dX9_list_61 fX9_85 rfl (os_1 hO) ?_
    try dsimp only [zz_s1, zz_s2, zz_kill, zz_ent, zz_fl, List.set_cons_zero, List.set_cons_succ, List.getElem?_cons_zero, List.getElem?_cons_succ, Option.toList_some, Option.toList_none, List.cons_append, List.nil_append, List.append_nil, List.length_cons, List.length_nil, List.replicate_succ, List.replicate_zero, Nat.reduceAdd, Nat.reduceSub]
    rw [zz_ui_at, pk_us]
    refine zz_cS1 dX9_list_64 lX9_273 rfl (Nat.le_of_ble_eq_true rfl) (Nat.le_of_ble_eq_true rfl) ?_
    refine sp_bitCountI (d + 18) ?_
    try dsimp only [zz_s1, zz_s2, zz_kill, zz_ent, zz_fl, List.set_cons_zero, List.set_cons_succ, List.getElem?_cons_zero, List.getElem?_cons_succ, Option.toList_some, Option.toList_none, List.cons_append, List.nil_append, List.append_nil, List.length_cons, List.length_nil, List.replicate_succ, List.replicate_zero, Nat.reduceAdd, Nat.reduceSub]
    refine zz_ireturn dX9_list_67 rfl (by first | rfl | decide | assumption) ?_
    rw [pop_I k3.1 hn16]
    refine h1 j l hj l1 l2 q3 hn16 e rfl _ J' x (fun c c1 c2 => ?_) (fun i i1 => ?_) k2 ?_ k3
    · rw [zz_ui_ne _ _ _ c1]; exact k1 c c2
    · rw [zz_ui_at, pk_un i1, k1 1 (by decide)]
    · rw [zz_ui_at, pk_us]
  · try dsimp only [zz_s1, zz_s2, zz_kill, zz_ent, zz_fl, List.set_cons_zero, List.set_cons_succ, List.getElem?_cons_zero, List.getElem?_cons_succ, Option.toList_some, Option.toList_none, List.cons_append, List.nil_append, List.append_nil, List.length_cons, List.length_nil, List.replicate_succ, List.replicate_zero, Nat.reduceAdd, Nat.reduceSub]
    refine zz_nstore_n dX9_list_5 (by decide) ?_
    refine zz_nload_n rfl dX9_list_6 ?_
    try dsimp only [zz_s1, zz_s2, zz_kill, zz_ent, zz_fl, List.set_cons_zero, List.set_cons_succ, List.getElem?_cons_zero, List.getElem?_cons_succ, Option.toList_some, Option.toList_none, List.cons_append, List.nil_append, List.append_nil, List.length_cons, List.length_nil, List.replicate_succ, List.replicate_zero, Nat.reduceAdd, Nat.reduceSub]
    refine zz_ifnullN (tgt := 21) dX9_list_7 (by decide) ?_
    refine zz_bipush (v := (-2)) (by decide) dX9_list_21 ?_
    refine zz_ireturn dX9_list_23 rfl (by first | rfl | decide | assumption) ?_
    exact h4 (fun ⟨j', l, a1, a2, a3, a4, a5⟩ => hv (by rw [a4]; exact vp_in_nI a1 (by decide)))
end PList

