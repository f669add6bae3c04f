/-! ===== most of the reference ===== -/
section GdInv
variable {N : Nat → Nat → Bool} {W m : Nat}
theorem gd_inv (sy : ∀ x y, N x y = N y x) (rf : ∀ x, N x x = true) (hW : W ≤ 64) (hm : m = al N 64 (ltW W)) : ∀ v, fb_ct (gd N W m v).2 64 + al N 64 (gd N W m v).1 = m
  | 0 => by
    show fb_ct (fun _ => false) 64 + al N 64 (ltW W) = m
    rw [show fb_ct (fun _ => false) 64 = 0 from fb_ct_zero.mpr (fun _ _ => rfl)]
    omega
  | v + 1 => by
    have ih := gd_inv sy rf hW hm v
    have hl := gd_lt (N := N) (W := W) (m := m) rf v
    by_cases c : (gd N W m v).1 v = true ∧ fb_ct (gd N W m v).2 64 + 1 + al N 64 (mi (gd N W m v).1 (N v)) = m
    · rw [gd_y c]
      have hv := (hl.1 v c.1).2
      have h1 := ct_rm (A := fun w => (gd N W m v).2 w || decide (w = v)) (show v < 64 by omega) (by simp)
      have h2 : fb_ct (rm (fun w => (gd N W m v).2 w || decide (w = v)) v) 64 = fb_ct (gd N W m v).2 64 := fb_ct_cong (fun k _ => by
        rw [Bool.eq_iff_iff, rm_t, Bool.or_eq_true, decide_eq_true_eq]
        exact ⟨fun z => z.1.elim id (fun y => absurd y z.2), fun z => ⟨Or.inl z, fun y => by have := (hl.2 k z).1; omega⟩⟩)
      have := c.2
      show fb_ct (fun w => (gd N W m v).2 w || decide (w = v)) 64 + al N 64 (mi (gd N W m v).1 (N v)) = m
      omega
    · rw [gd_n c]
      show fb_ct (gd N W m v).2 64 + al N 64 (rm (gd N W m v).1 v) = m
      by_cases o : (gd N W m v).1 v = true
      · have hv := (hl.1 v o).2
        have hbr := al_br sy rf (i := 64) (A := (gd N W m v).1) (v := v) (by omega) o
        have : ¬ fb_ct (gd N W m v).2 64 + 1 + al N 64 (mi (gd N W m v).1 (N v)) = m := fun z => c ⟨o, z⟩
        omega
      · rw [al_ext (A := rm (gd N W m v).1 v) (B := (gd N W m v).1) (fun w _ => by
          unfold rm
          by_cases e : w = v
          · rw [e]; simp at o; simp [o]
          · simp [e])]
        exact ih
theorem gd_done : ∀ (q v : Nat), fb_ct (gd N W m v).2 64 = m → (gd N W m (v + q)).2 = (gd N W m v).2
  | 0, v, _ => rfl
  | q + 1, v, h => by
    have h1 := gd_done q v h
    rw [← Nat.add_assoc, gd_n]
    · exact h1
    · rintro ⟨_, z⟩
      rw [h1, h] at z
      omega
end GdInv
section PMostM
variable {M : zz_M} {I : zz_I} {J : zz_J} {Q : zz_Q} {n : Nat → Nat} {kd ag : Nat → Int32} {E : Nat → Nat → Nat → Bool} {sg : Nat → Nat → Int32} {rw : Nat → Nat → Nat → Int32}
theorem in_6 {s : Int32} : ((1 : Int64) ≤ s.toInt64 ∧ s.toInt64 ≤ 6) ↔ ∃ n : Nat, 1 ≤ n ∧ n ≤ 6 ∧ s = nI n := by
  rw [Int64.le_iff_toInt_le, Int64.le_iff_toInt_le, i2l_int, show (1 : Int64).toInt = 1 by decide, show (6 : Int64).toInt = 6 by decide]
  constructor
  · intro h
    refine ⟨s.toInt.toNat, by omega, by omega, Int32.toInt_inj.mp ?_⟩
    rw [nI_toInt (by omega)]
    omega
  · rintro ⟨n, h1, h2, rfl⟩
    rw [nI_toInt (by omega)]
    omega
theorem sp_X10_most (d : Nat) (hO : OK M) {l K : Int32} (hn : ∀ j, j < 8 → 1 ≤ n j ∧ n j ≤ 24) (hE : ∀ j, j < 8 → wfE (n j) (E j)) (hC : ∀ j, j < 8 → ML I j (n j) (kd j) (ag j) (E j) (sg j) (rw j))
    (h1 : ∀ j k, j < 8 → 1 ≤ k → k ≤ 6 → n j ^ k ≤ 64 → l = nI j → K = nI k → ∀ (I' : zz_I) (J' : zz_J), (∀ c, c ≠ 259 → c ≠ 270 → I' c = I c) → (∀ i, i ≠ 13 → i ≠ 15 → i ≠ 16 → i ≠ 17 → i ≠ 18 → I' 259 i = I 259 i) → (∀ c, c ≠ 269 → J' c = J c) → I' 259 15 = nI (fb_ct (cds (n j) (E j) k) 64) → I' 259 16 = nI k → I' 259 17 = nI j → I' 259 18 = ag j → (∀ v, v < 64 → cds (n j) (E j) k v = true → I' 270 (fb_ct (cds (n j) (E j) k) v) = nI v) → Q (some (.int (nI (fb_ct (cds (n j) (E j) k) 64)))) M I' J')
    (h2 : ∀ j k, j < 8 → 1 ≤ k → k ≤ 6 → ¬ n j ^ k ≤ 64 → l = nI j → K = nI k → Q (some (.int (-3))) M I J)
    (h3 : ¬ (∃ j k, j < 8 ∧ 1 ≤ k ∧ k ≤ 6 ∧ l = nI j ∧ K = nI k) → Q (some (.int (-2))) M I J) : zz_D mX10_most (d + 68) [.ref 259, .int l, .int K] M I J Q := by
  refine zz_D_of rfl (Nat.le_of_ble_eq_true rfl) ?_
  try dsimp only [zz_s1, zz_s2, zz_kill, zz_ent, zz_fl, List.set_cons_zero, List.set_cons_succ, List.getElem?_cons_zero, List.getElem?_cons_succ, Option.toList_some, Option.toList_none, List.cons_append, List.nil_append, List.append_nil, List.length_cons, List.length_nil, List.replicate_succ, List.replicate_zero, Nat.reduceAdd, Nat.reduceSub]
  refine zz_iload_n rfl dX10_most_0 ?_
  try dsimp only [zz_s1, zz_s2, zz_kill, zz_ent, zz_fl, List.set_cons_zero, List.set_cons_succ, List.getElem?_cons_zero, List.getElem?_cons_succ, Option.toList_some, Option.toList_none, List.cons_append, List.nil_append, List.append_nil, List.length_cons, List.length_nil, List.replicate_succ, List.replicate_zero, Nat.reduceAdd, Nat.reduceSub]
  have bad : ¬ (∃ j k, j < 8 ∧ 1 ≤ k ∧ k ≤ 6 ∧ l = nI j ∧ K = nI k) → zz_G mX10_most (d + 68) 0 19 [some (.ref 259), some (.int l), some (.int K), none, none, none, none, none, none] [] M I J Q := by
    intro hb
    refine zz_bipush (v := (-2)) (by decide) dX10_most_19 ?_
    refine zz_ireturn dX10_most_21 rfl (by first | rfl | decide | assumption) ?_
    exact h3 hb
  refine zz_cS1 dX10_most_1 lX10_85 rfl (Nat.le_of_ble_eq_true rfl) (Nat.le_of_ble_eq_true rfl) ?_
  refine sp_isLine (d + 66) (fun r hr => ?_)
  try dsimp only [zz_s1, zz_s2, zz_kill, zz_ent, zz_fl, List.set_cons_zero, List.set_cons_succ, List.getElem?_cons_zero, List.getElem?_cons_succ, Option.toList_some, Option.toList_none, List.cons_append, List.nil_append, List.append_nil, List.length_cons, List.length_nil, List.replicate_succ, List.replicate_zero, Nat.reduceAdd, Nat.reduceSub]
  refine zz_if_eq (tgt := 19) dX10_most_4 (by decide) (fun q0 => ?_) (fun q0 => ?_)
  · refine bad (fun ⟨j', k, a1, a2, a3, a4, a5⟩ => hr.f q0 (by rw [a4]; exact vp_in_nI a1 (by decide)))
  obtain ⟨j, hj, rfl⟩ := vp_in_of (hr.t q0) (by decide)
  have hc := hC j hj
  have hnj := hn j hj
  have v1 : vp_in (nI j) 8 := vp_in_nI hj (by decide)
  have cl1 : (nI j).toNatClampNeg = j := nI_clamp (by omega)
  refine zz_iload_n rfl dX10_most_7 ?_
  refine zz_i2l dX10_most_8 ?_
  refine zz_lconst (v := 1) (by decide) dX10_most_9 ?_
  refine zz_ldc2 tX10_143 dX10_most_10 ?_
  try dsimp only [zz_s1, zz_s2, zz_kill, zz_ent, zz_fl, List.set_cons_zero, List.set_cons_succ, List.getElem?_cons_zero, List.getElem?_cons_succ, Option.toList_some, Option.toList_none, List.cons_append, List.nil_append, List.append_nil, List.length_cons, List.length_nil, List.replicate_succ, List.replicate_zero, Nat.reduceAdd, Nat.reduceSub]
  refine zz_cS3 dX10_most_13 lX10_81 rfl (Nat.le_of_ble_eq_true rfl) (Nat.le_of_ble_eq_true rfl) ?_
  refine sp_in (d + 67) (fun r2 hr2 => ?_)
  try dsimp only [zz_s1, zz_s2, zz_kill, zz_ent, zz_fl, List.set_cons_zero, List.set_cons_succ, List.getElem?_cons_zero, List.getElem?_cons_succ, Option.toList_some, Option.toList_none, List.cons_append, List.nil_append, List.append_nil, List.length_cons, List.length_nil, List.replicate_succ, List.replicate_zero, Nat.reduceAdd, Nat.reduceSub]
  refine zz_if_ne (tgt := 22) dX10_most_16 (by decide) (fun q1 => ?_) (fun q1 => ?_)
  rotate_left
  · refine zz_bipush (v := (-2)) (by decide) dX10_most_19 ?_
    refine zz_ireturn dX10_most_21 rfl (by first | rfl | decide | assumption) ?_
    exact h3 (fun ⟨j', k, a1, a2, a3, a4, a5⟩ => hr2.f q1 (in_6.mpr ⟨k, a2, a3, a5⟩))
  obtain ⟨k, hk1, hk6, rfl⟩ := in_6.mp (hr2.t q1)
  have hpw := pow_le6 hnj.2 hk6
  refine zz_aload_n rfl dX10_most_22 ?_
  refine zz_iload_n rfl dX10_most_23 ?_
  refine zz_iload_n rfl dX10_most_24 ?_
  refine zz_bipush (v := 64) (by decide) dX10_most_25 ?_
  try dsimp only [zz_s1, zz_s2, zz_kill, zz_ent, zz_fl, List.set_cons_zero, List.set_cons_succ, List.getElem?_cons_zero, List.getElem?_cons_succ, Option.toList_some, Option.toList_none, List.cons_append, List.nil_append, List.append_nil, List.length_cons, List.length_nil, List.replicate_succ, List.replicate_zero, Nat.reduceAdd, Nat.reduceSub]
  refine zz_cV3 dX10_most_27 lX10_168 rfl (os_259 hO) rfl rfl (Nat.le_of_ble_eq_true rfl) (Nat.le_of_ble_eq_true rfl) ?_
  refine sp_spell (d + 64) hO (mo := 64) hj hnj.1 hnj.2 hc hk6 (Nat.le_refl _) (fun hno => ?_) (fun h64 J1 a1 a2 => ?_)
  try dsimp only [zz_s1, zz_s2, zz_kill, zz_ent, zz_fl, List.set_cons_zero, List.set_cons_succ, List.getElem?_cons_zero, List.getElem?_cons_succ, Option.toList_some, Option.toList_none, List.cons_append, List.nil_append, List.append_nil, List.length_cons, List.length_nil, List.replicate_succ, List.replicate_zero, Nat.reduceAdd, Nat.reduceSub]
  · refine zz_if_ne (tgt := 36) dX10_most_30 (by decide) (fun q2 => ?_) (fun q2 => ?_)
    · exact absurd rfl q2
    · skip
      refine zz_bipush (v := (-3)) (by decide) dX10_most_33 ?_
      refine zz_ireturn dX10_most_35 rfl (by first | rfl | decide | assumption) ?_
      exact h2 j k hj hk1 hk6 hno rfl rfl
  try dsimp only [zz_s1, zz_s2, zz_kill, zz_ent, zz_fl, List.set_cons_zero, List.set_cons_succ, List.getElem?_cons_zero, List.getElem?_cons_succ, Option.toList_some, Option.toList_none, List.cons_append, List.nil_append, List.append_nil, List.length_cons, List.length_nil, List.replicate_succ, List.replicate_zero, Nat.reduceAdd, Nat.reduceSub]
  refine zz_if_ne (tgt := 36) dX10_most_30 (by decide) (fun q2 => ?_) (fun q2 => ?_)
  rotate_left
  · exact absurd q2 (by decide)
  have hp1 : 1 ≤ n j ^ k := Nat.pow_pos (by omega)
  have rf := tkB_rf (n := n j) (E := E j) k
  have sy := tkB_sy (n := n j) (hE j hj) k
  generalize hI1 : zz_ui I 259 13 (nI (n j ^ k)) = I1
  have e13 : I1 259 13 = nI (n j ^ k) := by rw [← hI1, zz_ui_at, pk_us]
  have e1 : ∀ c, c ≠ 259 → I1 c = I c := fun c h => by rw [← hI1, zz_ui_ne _ _ _ h]
  have e1' : ∀ i, i ≠ 13 → I1 259 i = I 259 i := fun i h => by rw [← hI1, zz_ui_at, pk_un h]
  refine zz_aload_n rfl dX10_most_36 ?_
  try dsimp only [zz_s1, zz_s2, zz_kill, zz_ent, zz_fl, List.set_cons_zero, List.set_cons_succ, List.getElem?_cons_zero, List.getElem?_cons_succ, Option.toList_some, Option.toList_none, List.cons_append, List.nil_append, List.append_nil, List.length_cons, List.length_nil, List.replicate_succ, List.replicate_zero, Nat.reduceAdd, Nat.reduceSub]
  refine zz_cV0 dX10_most_37 lX10_171 rfl (os_259 hO) rfl rfl (Nat.le_of_ble_eq_true rfl) (Nat.le_of_ble_eq_true rfl) ?_
  refine sp_all (d + 67) hO h64 e13 (fun al0 hal0 => ?_)
  try dsimp only [zz_s1, zz_s2, zz_kill, zz_ent, zz_fl, List.set_cons_zero, List.set_cons_succ, List.getElem?_cons_zero, List.getElem?_cons_succ, Option.toList_some, Option.toList_none, List.cons_append, List.nil_append, List.append_nil, List.length_cons, List.length_nil, List.replicate_succ, List.replicate_zero, Nat.reduceAdd, Nat.reduceSub]
  refine zz_lstore_n dX10_most_40 (by decide) ?_
  refine zz_aload_n rfl dX10_most_41 ?_
  refine zz_lload_n rfl dX10_most_42 ?_
  try dsimp only [zz_s1, zz_s2, zz_kill, zz_ent, zz_fl, List.set_cons_zero, List.set_cons_succ, List.getElem?_cons_zero, List.getElem?_cons_succ, Option.toList_some, Option.toList_none, List.cons_append, List.nil_append, List.append_nil, List.length_cons, List.length_nil, List.replicate_succ, List.replicate_zero, Nat.reduceAdd, Nat.reduceSub]
  refine zz_cV1 dX10_most_43 lX10_175 rfl (os_259 hO) rfl rfl (Nat.le_of_ble_eq_true rfl) (Nat.le_of_ble_eq_true rfl) ?_
  refine sp_largest d hO h64 sy rf a2 (fun w hw => by rw [hal0] at hw; simpa [ltW] using hw) ?_
  try dsimp only [zz_s1, zz_s2, zz_kill, zz_ent, zz_fl, List.set_cons_zero, List.set_cons_succ, List.getElem?_cons_zero, List.getElem?_cons_succ, Option.toList_some, Option.toList_none, List.cons_append, List.nil_append, List.append_nil, List.length_cons, List.length_nil, List.replicate_succ, List.replicate_zero, Nat.reduceAdd, Nat.reduceSub]
  rw [hal0]
  generalize hm : al (tkB (n j) (E j) k) 64 (ltW (n j ^ k)) = m
  have hm64 : m ≤ 64 := by rw [← hm]; exact Nat.le_trans al_ct (fb_ct_le _ _)
  refine zz_istore dX10_most_46 (by decide) ?_
  refine zz_aload_n rfl dX10_most_48 ?_
  refine zz_iconst (v := 0) (by decide) dX10_most_49 ?_
  refine zz_puti dX10_most_50 fX10_49 rfl (fun q h => by cases h; rfl) (os_259 hO) ?_
  refine zz_iconst (v := 0) (by decide) dX10_most_53 ?_
  refine zz_istore dX10_most_54 (by decide) ?_
  try dsimp only [zz_s1, zz_s2, zz_kill, zz_ent, zz_fl, List.set_cons_zero, List.set_cons_succ, List.getElem?_cons_zero, List.getElem?_cons_succ, Option.toList_some, Option.toList_none, List.cons_append, List.nil_append, List.append_nil, List.length_cons, List.length_nil, List.replicate_succ, List.replicate_zero, Nat.reduceAdd, Nat.reduceSub]
  have hcds : cds (n j) (E j) k = (gd (tkB (n j) (E j) k) (n j ^ k) m (n j ^ k)).2 := by rw [← hm]; rfl
  have fin : ∀ (v nd : Nat) (Ix : zz_I) (left : Int64) (z7 : Option Value), v ≤ n j ^ k → (∀ c, c ≠ 259 → c ≠ 270 → Ix c = I c) → (∀ i, i ≠ 13 → i ≠ 15 → Ix 259 i = I 259 i) → (gd (tkB (n j) (E j) k) (n j ^ k) m v).2 = cds (n j) (E j) k → Ix 259 15 = nI (fb_ct (gd (tkB (n j) (E j) k) (n j ^ k) m v).2 64) → (∀ w, (gd (tkB (n j) (E j) k) (n j ^ k) m v).2 w = true → Ix 270 (fb_ct (gd (tkB (n j) (E j) k) (n j ^ k) m v).2 w) = nI w) → zz_G mX10_most (d + 68) 0 168 [some (.ref 259), some (.int (nI j)), some (.int (nI k)), some (.long left), none, some (.int (nI nd)), some (.int (nI v)), z7, none] [] M Ix J1 Q := by
    intro v nd Ix left z7 hv f1 f2 f3 f4 f5
    rw [f3] at f4 f5
    refine zz_aload_n rfl dX10_most_168 ?_
    refine zz_iload_n rfl dX10_most_169 ?_
    refine zz_puti dX10_most_170 fX10_52 rfl (fun q h => by cases h; rfl) (os_259 hO) ?_
    refine zz_aload_n rfl dX10_most_173 ?_
    refine zz_iload_n rfl dX10_most_174 ?_
    refine zz_puti dX10_most_175 fX10_55 rfl (fun q h => by cases h; rfl) (os_259 hO) ?_
    refine zz_aload_n rfl dX10_most_178 ?_
    refine zz_aload_n rfl dX10_most_179 ?_
    refine zz_getr dX10_most_180 fX10_25 (fun _ _ _ _ => rfl) (os_259 hO) (or_259_5 hO) ?_
    refine zz_iload_n rfl dX10_most_183 ?_
    refine zz_iald dX10_most_184 (os_265 hO) v1 ?_
    refine zz_puti dX10_most_185 fX10_178 rfl (fun q h => by cases h; rfl) (os_259 hO) ?_
    refine zz_aload_n rfl dX10_most_188 ?_
    refine zz_geti dX10_most_189 fX10_49 rfl (os_259 hO) ?_
    refine zz_ireturn dX10_most_192 rfl (by first | rfl | decide | assumption) ?_
    rw [cl1, show zz_ui (zz_ui Ix 259 16 (nI k)) 259 17 (nI j) 265 j = ag j from by rw [zz_ui_ne _ _ _ (by decide), zz_ui_ne _ _ _ (by decide), f1 265 (by decide) (by decide)]; exact hc.2.2.1]
    rw [zz_ui_at, pk_un (by decide), zz_ui_at, pk_un (by decide), zz_ui_at, pk_un (by decide), f4]
    refine h1 j k hj hk1 hk6 h64 rfl rfl _ J1 (fun c c1 c2 => ?_) (fun i i1 i2 i3 i4 i5 => ?_) a1 ?_ ?_ ?_ ?_ (fun w hw hb => ?_)
    · rw [zz_ui_ne _ _ _ c1, zz_ui_ne _ _ _ c1, zz_ui_ne _ _ _ c1]; exact f1 c c1 c2
    · rw [zz_ui_at, pk_un i5, zz_ui_at, pk_un i4, zz_ui_at, pk_un i3]; exact f2 i i1 i2
    · rw [zz_ui_at, pk_un (by decide), zz_ui_at, pk_un (by decide), zz_ui_at, pk_un (by decide)]; exact f4
    · rw [zz_ui_at, pk_un (by decide), zz_ui_at, pk_un (by decide), zz_ui_at, pk_us]
    · rw [zz_ui_at, pk_un (by decide), zz_ui_at, pk_us]
    · rw [zz_ui_at, pk_us]
    · rw [zz_ui_ne _ _ _ (by decide), zz_ui_ne _ _ _ (by decide), zz_ui_ne _ _ _ (by decide)]; exact f5 w hb
  have loop : ∀ (q v : Nat) (Ix : zz_I) (left : Int64) (z7 : Option Value), v + q = n j ^ k → (∀ c, c ≠ 259 → c ≠ 270 → Ix c = I c) → (∀ i, i ≠ 13 → i ≠ 15 → Ix 259 i = I 259 i) → Ix 259 13 = nI (n j ^ k) → bl left = (gd (tkB (n j) (E j) k) (n j ^ k) m v).1 → Ix 259 15 = nI (fb_ct (gd (tkB (n j) (E j) k) (n j ^ k) m v).2 64) → (∀ w, (gd (tkB (n j) (E j) k) (n j ^ k) m v).2 w = true → Ix 270 (fb_ct (gd (tkB (n j) (E j) k) (n j ^ k) m v).2 w) = nI w) → zz_G mX10_most (d + 68) 0 56 [some (.ref 259), some (.int (nI j)), some (.int (nI k)), some (.long left), none, some (.int (nI (m - fb_ct (gd (tkB (n j) (E j) k) (n j ^ k) m v).2 64))), some (.int (nI v)), z7, none] [] M Ix J1 Q := by
    intro q
    induction q with
    | zero =>
      intro v Ix left z7 hv f1 f2 f3 g1 g2 g3
      have e : v = n j ^ k := by omega
      subst e
      refine zz_iload rfl dX10_most_56 ?_
      refine zz_aload_n rfl dX10_most_58 ?_
      refine zz_geti dX10_most_59 fX10_152 rfl (os_259 hO) ?_
      try dsimp only [zz_s1, zz_s2, zz_kill, zz_ent, zz_fl, List.set_cons_zero, List.set_cons_succ, List.getElem?_cons_zero, List.getElem?_cons_succ, Option.toList_some, Option.toList_none, List.cons_append, List.nil_append, List.append_nil, List.length_cons, List.length_nil, List.replicate_succ, List.replicate_zero, Nat.reduceAdd, Nat.reduceSub]
      rw [f3]
      refine zz_icmp_ge (tgt := 168) dX10_most_62 (by decide) (fun h => ?_) (fun h => ?_)
      · exact fin _ _ Ix left _ (Nat.le_refl _) f1 f2 hcds.symm g2 g3
      · exact absurd (nI_le (Nat.le_refl _) (by omega)) h
    | succ q ih =>
      intro v Ix left z7 hv f1 f2 f3 g1 g2 g3
      have hv64 : v < 64 := by omega
      have hinv := gd_inv (W := n j ^ k) (m := m) sy rf h64 hm.symm v
      have hgl := gd_lt (N := tkB (n j) (E j) k) (W := n j ^ k) (m := m) rf v
      have hL64 := fb_ct_le (gd (tkB (n j) (E j) k) (n j ^ k) m v).2 64
      have hls : sb left (n j ^ k) := fun w hw => (hgl.1 w (by rw [← g1]; exact hw)).2
      refine zz_iload rfl dX10_most_56 ?_
      refine zz_aload_n rfl dX10_most_58 ?_
      refine zz_geti dX10_most_59 fX10_152 rfl (os_259 hO) ?_
      try dsimp only [zz_s1, zz_s2, zz_kill, zz_ent, zz_fl, List.set_cons_zero, List.set_cons_succ, List.getElem?_cons_zero, List.getElem?_cons_succ, Option.toList_some, Option.toList_none, List.cons_append, List.nil_append, List.append_nil, List.length_cons, List.length_nil, List.replicate_succ, List.replicate_zero, Nat.reduceAdd, Nat.reduceSub]
      rw [f3]
      refine zz_icmp_ge (tgt := 168) dX10_most_62 (by decide) (fun h => ?_) (fun h => ?_)
      · exact absurd h (nI_ge (by omega) (by omega))
      refine zz_iload rfl dX10_most_65 ?_
      try dsimp only [zz_s1, zz_s2, zz_kill, zz_ent, zz_fl, List.set_cons_zero, List.set_cons_succ, List.getElem?_cons_zero, List.getElem?_cons_succ, Option.toList_some, Option.toList_none, List.cons_append, List.nil_append, List.append_nil, List.length_cons, List.length_nil, List.replicate_succ, List.replicate_zero, Nat.reduceAdd, Nat.reduceSub]
      refine zz_if_le (tgt := 168) dX10_most_67 (by decide) (fun h4 => ?_) (fun h4 => ?_)
      · have hd : fb_ct (gd (tkB (n j) (E j) k) (n j ^ k) m v).2 64 = m := by
          have : ¬ 0 < m - fb_ct (gd (tkB (n j) (E j) k) (n j ^ k) m v).2 64 := fun z => nI_nle z (by omega) h4
          omega
        have := gd_done (q + 1) v hd
        rw [hv] at this
        exact fin v _ Ix left _ (by omega) f1 f2 (by rw [hcds, this]) g2 g3
      have hpos : 0 < m - fb_ct (gd (tkB (n j) (E j) k) (n j ^ k) m v).2 64 := Nat.pos_of_ne_zero fun z => h4 (by rw [z]; decide)
      have eo : (jv_lshr left (nI v) &&& 1 = 0) ↔ bl left v = false := by rw [low1L, bl_sshr0 left hv64]
      refine zz_lload_n rfl dX10_most_70 ?_
      refine zz_iload rfl dX10_most_71 ?_
      refine zz_lshr dX10_most_73 ?_
      refine zz_lconst (v := 1) (by decide) dX10_most_74 ?_
      refine zz_land dX10_most_75 ?_
      refine zz_lconst (v := 0) (by decide) dX10_most_76 ?_
      refine zz_lcmp dX10_most_77 ?_
      try dsimp only [zz_s1, zz_s2, zz_kill, zz_ent, zz_fl, List.set_cons_zero, List.set_cons_succ, List.getElem?_cons_zero, List.getElem?_cons_succ, Option.toList_some, Option.toList_none, List.cons_append, List.nil_append, List.append_nil, List.length_cons, List.length_nil, List.replicate_succ, List.replicate_zero, Nat.reduceAdd, Nat.reduceSub]
      refine zz_if_ne (tgt := 84) dX10_most_78 (by decide) (fun h5 => ?_) (fun h5 => ?_)
      rotate_left
      · skip
        have ho : bl left v = false := eo.mp (cmp_eq.mp h5)
        have hgn := gd_n (N := tkB (n j) (E j) k) (W := n j ^ k) (m := m) (v := v) (fun z => by rw [← g1, ho] at z; cases z.1)
        have he : rm (bl left) v = bl left := funext fun w => by
          unfold rm
          by_cases e : w = v
          · rw [e, ho]; rfl
          · simp [e]
        refine zz_goto (tgt := 162) dX10_most_81 (by decide) ?_
        refine zz_iinc dX10_most_162 rfl (congrArg (HAdd.hAdd _) (show Int32.ofInt 1 = 1 by decide)) (by decide) ?_
        refine zz_goto (tgt := 56) dX10_most_165 (by decide) ?_
        try dsimp only [zz_s1, zz_s2, zz_kill, zz_ent, zz_fl, List.set_cons_zero, List.set_cons_succ, List.getElem?_cons_zero, List.getElem?_cons_succ, Option.toList_some, Option.toList_none, List.cons_append, List.nil_append, List.append_nil, List.length_cons, List.length_nil, List.replicate_succ, List.replicate_zero, Nat.reduceAdd, Nat.reduceSub]
        rw [nI_1]
        have hx := ih (v + 1) Ix left z7 (by omega) f1 f2 f3 (by rw [hgn, ← g1]; exact he.symm) (by rw [hgn]; exact g2) (by rw [hgn]; exact g3)
        rw [hgn] at hx
        exact hx
      have ho : bl left v = true := by
        cases z : bl left v with
        | true => rfl
        | false => exact absurd (cmp_eq.mpr (eo.mpr z)) h5
      have ho' : (gd (tkB (n j) (E j) k) (n j ^ k) m v).1 v = true := by rw [← g1]; exact ho
      have hbr := al_br sy rf (i := 64) (A := (gd (tkB (n j) (E j) k) (n j ^ k) m v).1) hv64 ho'
      refine zz_lload_n rfl dX10_most_84 ?_
      refine zz_aload_n rfl dX10_most_85 ?_
      refine zz_getr dX10_most_86 fX10_42 (fun _ _ _ _ => rfl) (os_259 hO) (or_259_12 hO) ?_
      refine zz_iload rfl dX10_most_89 ?_
      refine zz_lald dX10_most_91 (os_269 hO) (vp_in_nI hv64 (by decide)) ?_
      refine zz_ldc2 tX10_155 dX10_most_92 ?_
      refine zz_lxor dX10_most_95 ?_
      refine zz_land dX10_most_96 ?_
      refine zz_lconst (v := 1) (by decide) dX10_most_97 ?_
      refine zz_iload rfl dX10_most_98 ?_
      refine zz_lshl dX10_most_100 ?_
      refine zz_ldc2 tX10_155 dX10_most_101 ?_
      refine zz_lxor dX10_most_104 ?_
      refine zz_land dX10_most_105 ?_
      refine zz_lstore dX10_most_106 (by decide) ?_
      try dsimp only [zz_s1, zz_s2, zz_kill, zz_ent, zz_fl, List.set_cons_zero, List.set_cons_succ, List.getElem?_cons_zero, List.getElem?_cons_succ, Option.toList_some, Option.toList_none, List.cons_append, List.nil_append, List.append_nil, List.length_cons, List.length_nil, List.replicate_succ, List.replicate_zero, Nat.reduceAdd, Nat.reduceSub]
      rw [nI_clamp (show v < 2 ^ 31 by omega)]
      have eb : bl (left &&& (J1 269 v ^^^ (-1)) &&& (jv_lshl 1 (nI v) ^^^ (-1))) = mi (gd (tkB (n j) (E j) k) (n j ^ k) m v).1 (tkB (n j) (E j) k v) := by
        rw [br1 _ hv64, bm, ← g1]
        funext w
        rw [Bool.eq_iff_iff, rm_t, mi_t, mi_t]
        by_cases hw : bl left w = true
        · have hwW := hls w hw
          rw [a2 v (by omega) w]
          by_cases e : w = v
          · subst e; simp [rf]
          · simp [hw, e, hwW]
        · simp [hw]
      generalize haf : left &&& (J1 269 v ^^^ (-1)) &&& (jv_lshl 1 (nI v) ^^^ (-1)) = after at *
      refine zz_aload_n rfl dX10_most_108 ?_
      refine zz_lload rfl dX10_most_109 ?_
      refine zz_iload rfl dX10_most_111 ?_
      refine zz_iconst (v := 1) (by decide) dX10_most_113 ?_
      refine zz_isub dX10_most_114 ?_
      try dsimp only [zz_s1, zz_s2, zz_kill, zz_ent, zz_fl, List.set_cons_zero, List.set_cons_succ, List.getElem?_cons_zero, List.getElem?_cons_succ, Option.toList_some, Option.toList_none, List.cons_append, List.nil_append, List.append_nil, List.length_cons, List.length_nil, List.replicate_succ, List.replicate_zero, Nat.reduceAdd, Nat.reduceSub]
      rw [show nI (m - fb_ct (gd (tkB (n j) (E j) k) (n j ^ k) m v).2 64) - 1 = nI (m - fb_ct (gd (tkB (n j) (E j) k) (n j ^ k) m v).2 64 - 1) from pk_sub (b := 1) hpos]
      refine zz_cV2 dX10_most_115 lX10_164 rfl (os_259 hO) rfl rfl (Nat.le_of_ble_eq_true rfl) (Nat.le_of_ble_eq_true rfl) ?_
      refine sp_X10_reaches hO h64 sy rf 64 (d + 1) Ix J1 _ after _ a2 (fun w hw => hls w (by rw [eb, mi_t] at hw; rw [g1]; exact hw.1)) (ct64 _) (by omega) (fun r hr => ?_)
      try dsimp only [zz_s1, zz_s2, zz_kill, zz_ent, zz_fl, List.set_cons_zero, List.set_cons_succ, List.getElem?_cons_zero, List.getElem?_cons_succ, Option.toList_some, Option.toList_none, List.cons_append, List.nil_append, List.append_nil, List.length_cons, List.length_nil, List.replicate_succ, List.replicate_zero, Nat.reduceAdd, Nat.reduceSub]
      rw [eb] at hr
      refine zz_if_eq (tgt := 151) dX10_most_118 (by decide) (fun h6 => ?_) (fun h6 => ?_)
      · have hno := hr.f h6
        have hgn := gd_n (N := tkB (n j) (E j) k) (W := n j ^ k) (m := m) (v := v) (fun z => by omega)
        refine zz_lload_n rfl dX10_most_151 ?_
        refine zz_lconst (v := 1) (by decide) dX10_most_152 ?_
        refine zz_iload rfl dX10_most_153 ?_
        refine zz_lshl dX10_most_155 ?_
        refine zz_ldc2 tX10_155 dX10_most_156 ?_
        refine zz_lxor dX10_most_159 ?_
        refine zz_land dX10_most_160 ?_
        refine zz_lstore_n dX10_most_161 (by decide) ?_
        refine zz_iinc dX10_most_162 rfl (congrArg (HAdd.hAdd _) (show Int32.ofInt 1 = 1 by decide)) (by decide) ?_
        refine zz_goto (tgt := 56) dX10_most_165 (by decide) ?_
        try dsimp only [zz_s1, zz_s2, zz_kill, zz_ent, zz_fl, List.set_cons_zero, List.set_cons_succ, List.getElem?_cons_zero, List.getElem?_cons_succ, Option.toList_some, Option.toList_none, List.cons_append, List.nil_append, List.append_nil, List.length_cons, List.length_nil, List.replicate_succ, List.replicate_zero, Nat.reduceAdd, Nat.reduceSub]
        rw [nI_1]
        have hx := ih (v + 1) Ix (left &&& (jv_lshl 1 (nI v) ^^^ (-1))) (some (.long after)) (by omega) f1 f2 f3 (by rw [hgn, br1 _ hv64, g1]) (by rw [hgn]; exact g2) (by rw [hgn]; exact g3)
        rw [hgn] at hx
        exact hx
      · skip
        have hyes := hr.t h6
        have hgy := gd_y (N := tkB (n j) (E j) k) (W := n j ^ k) (m := m) (v := v) ⟨ho', by omega⟩
        refine zz_aload_n rfl dX10_most_121 ?_
        refine zz_getr dX10_most_122 fX10_46 (fun _ _ _ _ => rfl) (os_259 hO) (or_259_14 hO) ?_
        refine zz_aload_n rfl dX10_most_125 ?_
        refine zz_geti dX10_most_126 fX10_49 rfl (os_259 hO) ?_
        refine zz_iload rfl dX10_most_129 ?_
        refine zz_iast dX10_most_131 (os_270 hO) (by rw [g2]; exact vp_in_nI (show _ < 64 by omega) (by decide)) ?_
        refine zz_aload_n rfl dX10_most_132 ?_
        refine zz_dup rfl dX10_most_133 ?_
        refine zz_geti dX10_most_134 fX10_49 rfl (os_259 hO) ?_
        refine zz_iconst (v := 1) (by decide) dX10_most_137 ?_
        refine zz_iadd dX10_most_138 ?_
        refine zz_puti dX10_most_139 fX10_49 rfl (fun q h => by cases h; rfl) (os_259 hO) ?_
        refine zz_iinc dX10_most_142 rfl (congrArg (HAdd.hAdd _) (show Int32.ofInt (-1) = (-1) by decide)) (by decide) ?_
        refine zz_lload rfl dX10_most_145 ?_
        refine zz_lstore_n dX10_most_147 (by decide) ?_
        refine zz_goto (tgt := 162) dX10_most_148 (by decide) ?_
        refine zz_iinc dX10_most_162 rfl (congrArg (HAdd.hAdd _) (show Int32.ofInt 1 = 1 by decide)) (by decide) ?_
        refine zz_goto (tgt := 56) dX10_most_165 (by decide) ?_
        try dsimp only [zz_s1, zz_s2, zz_kill, zz_ent, zz_fl, List.set_cons_zero, List.set_cons_succ, List.getElem?_cons_zero, List.getElem?_cons_succ, Option.toList_some, Option.toList_none, List.cons_append, List.nil_append, List.append_nil, List.length_cons, List.length_nil, List.replicate_succ, List.replicate_zero, Nat.reduceAdd, Nat.reduceSub]
        rw [nI_1, g2, nI_clamp (by omega), zz_ui_ne _ _ _ (by decide), g2, nI_1]
        rw [show m - fb_ct (gd (tkB (n j) (E j) k) (n j ^ k) m v).2 64 = (m - fb_ct (gd (tkB (n j) (E j) k) (n j ^ k) m v).2 64 - 1) + 1 by omega, nI_dn]
        have hvL : (gd (tkB (n j) (E j) k) (n j ^ k) m v).2 v = false := by
          cases z : (gd (tkB (n j) (E j) k) (n j ^ k) m v).2 v with
          | false => rfl
          | true => have := hgl.2 v z; omega
        have hc1 := ct_rm (A := fun w => (gd (tkB (n j) (E j) k) (n j ^ k) m v).2 w || decide (w = v)) hv64 (by simp)
        have hc2 : fb_ct (rm (fun w => (gd (tkB (n j) (E j) k) (n j ^ k) m v).2 w || decide (w = v)) v) 64 = fb_ct (gd (tkB (n j) (E j) k) (n j ^ k) m v).2 64 := fb_ct_cong (fun k' _ => by
          rw [Bool.eq_iff_iff, rm_t, Bool.or_eq_true, decide_eq_true_eq]
          exact ⟨fun z => z.1.elim id (fun y => absurd y z.2), fun z => ⟨Or.inl z, fun y => by rw [y, hvL] at z; cases z⟩⟩)
        have hlow : ∀ w, w ≤ v → fb_ct (fun w => (gd (tkB (n j) (E j) k) (n j ^ k) m v).2 w || decide (w = v)) w = fb_ct (gd (tkB (n j) (E j) k) (n j ^ k) m v).2 w := fun w hw => fb_ct_cong (fun k' hk' => by simp [show ¬ k' = v by omega])
        have hfull : fb_ct (gd (tkB (n j) (E j) k) (n j ^ k) m v).2 v = fb_ct (gd (tkB (n j) (E j) k) (n j ^ k) m v).2 64 := by
          have hsp := fb_ct_split (gd (tkB (n j) (E j) k) (n j ^ k) m v).2 v (64 - v)
          rw [show v + (64 - v) = 64 by omega] at hsp
          have : fb_ct (fun k' => (gd (tkB (n j) (E j) k) (n j ^ k) m v).2 (v + k')) (64 - v) = 0 := fb_ct_zero.mpr (fun k' _ => by
            cases z : (gd (tkB (n j) (E j) k) (n j ^ k) m v).2 (v + k') with
            | false => rfl
            | true => have := (hgl.2 _ z).1; omega)
          omega
        have hx := ih (v + 1) (zz_ui (zz_ui Ix 270 (fb_ct (gd (tkB (n j) (E j) k) (n j ^ k) m v).2 64) (nI v)) 259 15 (nI (fb_ct (gd (tkB (n j) (E j) k) (n j ^ k) m v).2 64 + 1))) after (some (.long after)) (by omega) (fun c c1 c2 => by rw [zz_ui_ne _ _ _ c1, zz_ui_ne _ _ _ c2]; exact f1 c c1 c2) (fun i i1 i2 => by rw [zz_ui_at, pk_un i2, zz_ui_ne _ _ _ (by decide)]; exact f2 i i1 i2) (by rw [zz_ui_at, pk_un (by decide), zz_ui_ne _ _ _ (by decide)]; exact f3) (by rw [hgy]; exact eb) (by rw [hgy, zz_ui_at, pk_us]; congr 1; show _ = fb_ct (fun w => (gd (tkB (n j) (E j) k) (n j ^ k) m v).2 w || decide (w = v)) 64; omega) (fun w hw => by
          rw [hgy] at hw ⊢
          have hw : ((gd (tkB (n j) (E j) k) (n j ^ k) m v).2 w || decide (w = v)) = true := hw
          show zz_ui _ 259 15 _ 270 (fb_ct (fun w => (gd (tkB (n j) (E j) k) (n j ^ k) m v).2 w || decide (w = v)) w) = nI w
          rw [zz_ui_ne _ _ _ (by decide), zz_ui_at]
          rw [Bool.or_eq_true, decide_eq_true_eq] at hw
          rcases hw with hw | hw
          · have hwv := (hgl.2 w hw).1
            rw [hlow w (by omega)]
            have hlt : fb_ct (gd (tkB (n j) (E j) k) (n j ^ k) m v).2 w < fb_ct (gd (tkB (n j) (E j) k) (n j ^ k) m v).2 64 := by
              have h1 : fb_ct (gd (tkB (n j) (E j) k) (n j ^ k) m v).2 (w + 1) ≤ fb_ct (gd (tkB (n j) (E j) k) (n j ^ k) m v).2 64 := fb_ct_mono _ (by omega)
              rw [fb_ct_succ, if_pos hw] at h1
              omega
            rw [pk_un (by omega)]
            exact g3 w hw
          · rw [hw, hlow v (Nat.le_refl _), hfull, pk_us])
        rw [hgy] at hx
        have hlast : m - fb_ct (fun w => (gd (tkB (n j) (E j) k) (n j ^ k) m v).2 w || decide (w = v)) 64 = m - fb_ct (gd (tkB (n j) (E j) k) (n j ^ k) m v).2 64 - 1 := by omega
        rw [show m - fb_ct ((mi (gd (tkB (n j) (E j) k) (n j ^ k) m v).1 (tkB (n j) (E j) k v), fun w => (gd (tkB (n j) (E j) k) (n j ^ k) m v).2 w || decide (w = v)) : (Nat → Bool) × (Nat → Bool)).2 64 = m - fb_ct (gd (tkB (n j) (E j) k) (n j ^ k) m v).2 64 - 1 from hlast] at hx
        exact hx
  have z0 : fb_ct (gd (tkB (n j) (E j) k) (n j ^ k) m 0).2 64 = 0 := fb_ct_zero.mpr (fun _ _ => rfl)
  have hx := loop (n j ^ k) 0 (zz_ui I1 259 15 0) al0 none (by omega) (fun c c1 c2 => by rw [zz_ui_ne _ _ _ c1]; exact e1 c c1) (fun i i1 i2 => by rw [zz_ui_at, pk_un i2]; exact e1' i i1) (by rw [zz_ui_at, pk_un (by decide)]; exact e13) hal0 (by rw [z0, zz_ui_at, pk_us]; rfl) (fun w hw => by cases hw)
  rw [z0, Nat.sub_zero] at hx
  exact hx
end PMostM

