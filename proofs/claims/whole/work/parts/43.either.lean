/-! ===== either ===== -/
section PEither
variable {M : zz_M} {I : zz_I} {J : zz_J} {Q : zz_Q} {n : Nat → Nat} {kd ag : Nat → Int32} {E : Nat → Nat → Nat → Bool} {sg : Nat → Nat → Int32} {rw : Nat → Nat → Nat → Int32}
theorem eE_lo {n1 n2 x y : Nat} {E1 E2 : Nat → Nat → Bool} (hw : wfE n1 E1) (hx : x < n1) : eE n1 n2 E1 E2 x y = E1 x y := by
  unfold eE
  rw [if_pos hx]
  cases h : E1 x y with
  | false => simp
  | true => simp [(hw x y h).2.1]
theorem eE_hi {n1 n2 x y : Nat} {E1 E2 : Nat → Nat → Bool} (hx : n1 ≤ x) (hx2 : x < n1 + n2) : eE n1 n2 E1 E2 x y = (decide (n1 ≤ y) && E2 (x - n1) (y - n1)) := by
  unfold eE
  rw [if_neg (by omega)]
  simp [hx2]
theorem eE_out {n1 n2 x y : Nat} {E1 E2 : Nat → Nat → Bool} (hx : n1 + n2 ≤ x) : eE n1 n2 E1 E2 x y = false := by
  unfold eE
  rw [if_neg (by omega)]
  simp; omega
theorem sp_X9_either (d : Nat) (hO : OK M) {l m t : Int32} (hn : ∀ j, j < 8 → 1 ≤ n j ∧ n j ≤ 24) (hw : ∀ j, j < 8 → wfE (n j) (E j)) (hC : ∀ j, j < 8 → CL I j (n j) (kd j) (ag j) (E j) (sg j) (rw j))
    (h1 : ∀ j1 j2 j3, j1 < 8 → j2 < 8 → j3 < 8 → l = nI j1 → m = nI j2 → t = nI j3 → (24 < n j1 + n j2 → Q (some (.int (-3))) M I J) ∧ (n j1 + n j2 ≤ 24 → ∀ I' : zz_I, (∀ c, c ≠ 7 → (c < LN j3 ∨ LN j3 + 29 ≤ c) → I' c = I c) → CL I' j3 (n j1 + n j2) 0 (I (LN j3) 2 + 1) (eE (n j1) (n j2) (E j1) (E j2)) (fun _ => 0) (fun _ _ => 0) → Q (some (.int (nI (n j1 + n j2)))) M I' J))
    (h2 : ¬ (vp_in l 8 ∧ vp_in m 8 ∧ vp_in t 8) → Q (some (.int (-2))) M I J) : zz_D mX9_either (d + 3) [.ref 1, .int l, .int m, .int t] M I J Q := by
  refine zz_D_of rfl (Nat.le_of_ble_eq_true rfl) ?_
  try dsimp only [zz_s1, zz_s2, zz_kill, zz_ent, zz_fl, List.set_cons_zero, List.set_cons_succ, List.getElem?_cons_zero, List.getElem?_cons_succ, Option.toList_some, Option.toList_none, List.cons_append, List.nil_append, List.append_nil, List.length_cons, List.length_nil, List.replicate_succ, List.replicate_zero, Nat.reduceAdd, Nat.reduceSub]
  refine zz_aload_n rfl dX9_either_0 ?_
  refine zz_iload_n rfl dX9_either_1 ?_
  try dsimp only [zz_s1, zz_s2, zz_kill, zz_ent, zz_fl, List.set_cons_zero, List.set_cons_succ, List.getElem?_cons_zero, List.getElem?_cons_succ, Option.toList_some, Option.toList_none, List.cons_append, List.nil_append, List.append_nil, List.length_cons, List.length_nil, List.replicate_succ, List.replicate_zero, Nat.reduceAdd, Nat.reduceSub]
  refine zz_cV1 dX9_either_2 lX9_100 rfl (os_1 hO) rfl rfl (Nat.le_of_ble_eq_true rfl) (Nat.le_of_ble_eq_true rfl) ?_
  refine sp_lineAtQ (d + 2) hO (fun o1 ho1 => ?_)
  try dsimp only [zz_s1, zz_s2, zz_kill, zz_ent, zz_fl, List.set_cons_zero, List.set_cons_succ, List.getElem?_cons_zero, List.getElem?_cons_succ, Option.toList_some, Option.toList_none, List.cons_append, List.nil_append, List.append_nil, List.length_cons, List.length_nil, List.replicate_succ, List.replicate_zero, Nat.reduceAdd, Nat.reduceSub]
  refine zz_astoreQ dX9_either_5 (by decide) rfl ?_
  try dsimp only [zz_s1, zz_s2, zz_kill, zz_ent, zz_fl, List.set_cons_zero, List.set_cons_succ, List.getElem?_cons_zero, List.getElem?_cons_succ, Option.toList_some, Option.toList_none, List.cons_append, List.nil_append, List.append_nil, List.length_cons, List.length_nil, List.replicate_succ, List.replicate_zero, Nat.reduceAdd, Nat.reduceSub]
  refine zz_aload_n rfl dX9_either_7 ?_
  refine zz_iload_n rfl dX9_either_8 ?_
  try dsimp only [zz_s1, zz_s2, zz_kill, zz_ent, zz_fl, List.set_cons_zero, List.set_cons_succ, List.getElem?_cons_zero, List.getElem?_cons_succ, Option.toList_some, Option.toList_none, List.cons_append, List.nil_append, List.append_nil, List.length_cons, List.length_nil, List.replicate_succ, List.replicate_zero, Nat.reduceAdd, Nat.reduceSub]
  refine zz_cV1 dX9_either_9 lX9_100 rfl (os_1 hO) rfl rfl (Nat.le_of_ble_eq_true rfl) (Nat.le_of_ble_eq_true rfl) ?_
  refine sp_lineAtQ (d + 2) hO (fun o2 ho2 => ?_)
  try dsimp only [zz_s1, zz_s2, zz_kill, zz_ent, zz_fl, List.set_cons_zero, List.set_cons_succ, List.getElem?_cons_zero, List.getElem?_cons_succ, Option.toList_some, Option.toList_none, List.cons_append, List.nil_append, List.append_nil, List.length_cons, List.length_nil, List.replicate_succ, List.replicate_zero, Nat.reduceAdd, Nat.reduceSub]
  refine zz_astoreQ dX9_either_12 (by decide) (by cases o1 <;> rfl) ?_
  try dsimp only [zz_s1, zz_s2, zz_kill, zz_ent, zz_fl, List.set_cons_zero, List.set_cons_succ, List.getElem?_cons_zero, List.getElem?_cons_succ, Option.toList_some, Option.toList_none, List.cons_append, List.nil_append, List.append_nil, List.length_cons, List.length_nil, List.replicate_succ, List.replicate_zero, Nat.reduceAdd, Nat.reduceSub]
  refine zz_aload_n rfl dX9_either_14 ?_
  refine zz_iload_n rfl dX9_either_15 ?_
  try dsimp only [zz_s1, zz_s2, zz_kill, zz_ent, zz_fl, List.set_cons_zero, List.set_cons_succ, List.getElem?_cons_zero, List.getElem?_cons_succ, Option.toList_some, Option.toList_none, List.cons_append, List.nil_append, List.append_nil, List.length_cons, List.length_nil, List.replicate_succ, List.replicate_zero, Nat.reduceAdd, Nat.reduceSub]
  refine zz_cV1 dX9_either_16 lX9_100 rfl (os_1 hO) rfl rfl (Nat.le_of_ble_eq_true rfl) (Nat.le_of_ble_eq_true rfl) ?_
  refine sp_lineAtQ (d + 2) hO (fun o3 ho3 => ?_)
  try dsimp only [zz_s1, zz_s2, zz_kill, zz_ent, zz_fl, List.set_cons_zero, List.set_cons_succ, List.getElem?_cons_zero, List.getElem?_cons_succ, Option.toList_some, Option.toList_none, List.cons_append, List.nil_append, List.append_nil, List.length_cons, List.length_nil, List.replicate_succ, List.replicate_zero, Nat.reduceAdd, Nat.reduceSub]
  refine zz_astoreQ dX9_either_19 (by decide) (by cases o2 <;> rfl) ?_
  try dsimp only [zz_s1, zz_s2, zz_kill, zz_ent, zz_fl, List.set_cons_zero, List.set_cons_succ, List.getElem?_cons_zero, List.getElem?_cons_succ, Option.toList_some, Option.toList_none, List.cons_append, List.nil_append, List.append_nil, List.length_cons, List.length_nil, List.replicate_succ, List.replicate_zero, Nat.reduceAdd, Nat.reduceSub]
  have rng : ∀ (v4 v5 v6 : Option Value) (z7 z8 z9 : Option Value), ¬ (vp_in l 8 ∧ vp_in m 8 ∧ vp_in t 8) → zz_G mX9_either (d + 3) 0 36 [some (.ref 1), some (.int l), some (.int m), some (.int t), v4, v5, v6, z7, z8, z9] [] M I J Q := by
    intro v4 v5 v6 z7 z8 z9 q
    refine zz_bipush (v := (-2)) (by decide) dX9_either_36 ?_
    refine zz_ireturn dX9_either_38 rfl (by first | rfl | decide | assumption) ?_
    exact h2 q
  rcases ho1 with ⟨rfl, q1⟩ | ⟨j1, hj1, e1, rfl⟩
  · refine zz_nload rfl dX9_either_21 ?_
    refine zz_ifnullN (tgt := 36) dX9_either_23 (by decide) ?_
    exact rng _ _ _ _ _ _ (fun q => q1 q.1)
  refine zz_aload rfl dX9_either_21 ?_
  refine zz_ifnull dX9_either_23 ?_
  rcases ho2 with ⟨rfl, q1⟩ | ⟨j2, hj2, e2, rfl⟩
  · refine zz_nload rfl dX9_either_26 ?_
    refine zz_ifnullN (tgt := 36) dX9_either_28 (by decide) ?_
    exact rng _ _ _ _ _ _ (fun q => q1 q.2.1)
  refine zz_aload rfl dX9_either_26 ?_
  refine zz_ifnull dX9_either_28 ?_
  rcases ho3 with ⟨rfl, q1⟩ | ⟨j3, hj3, e3, rfl⟩
  · refine zz_nload rfl dX9_either_31 ?_
    refine zz_ifnonnullN dX9_either_33 ?_
    exact rng _ _ _ _ _ _ (fun q => q1 q.2.2)
  refine zz_aload rfl dX9_either_31 ?_
  refine zz_ifnonnull (tgt := 39) dX9_either_33 (by decide) ?_
  obtain ⟨k1, k2⟩ := h1 j1 j2 j3 hj1 hj2 hj3 e1 e2 e3
  have hc1 := hC j1 hj1
  have hc2 := hC j2 hj2
  have hn1 := hn j1 hj1
  have hn2 := hn j2 hj2
  refine zz_aload rfl dX9_either_39 ?_
  refine zz_geti dX9_either_41 fX9_144 rfl (ol_obj hO hj1) ?_
  refine zz_aload rfl dX9_either_44 ?_
  refine zz_geti dX9_either_46 fX9_144 rfl (ol_obj hO hj2) ?_
  refine zz_iadd dX9_either_49 ?_
  refine zz_istore dX9_either_50 (by decide) ?_
  refine zz_iload rfl dX9_either_52 ?_
  refine zz_bipush (v := 24) (by decide) dX9_either_54 ?_
  try dsimp only [zz_s1, zz_s2, zz_kill, zz_ent, zz_fl, List.set_cons_zero, List.set_cons_succ, List.getElem?_cons_zero, List.getElem?_cons_succ, Option.toList_some, Option.toList_none, List.cons_append, List.nil_append, List.append_nil, List.length_cons, List.length_nil, List.replicate_succ, List.replicate_zero, Nat.reduceAdd, Nat.reduceSub]
  rw [hc1.2.1, hc2.2.1, nI_add]
  show zz_G mX9_either (d + 3) 0 56 [some (.ref 1), some (.int l), some (.int m), some (.int t), some (.ref (LN j1)), some (.ref (LN j2)), some (.ref (LN j3)), some (.int (nI (n j1 + n j2))), none, none] _ M I J Q
  refine zz_icmp_le (tgt := 62) dX9_either_56 (by decide) (fun h => ?_) (fun h => ?_)
  · have hle : n j1 + n j2 ≤ 24 := (nI_leI (b := 24) (by omega) (by decide)).mp h
    have k2 := k2 hle
    have e7 : ∀ j, j < 8 → 7 < LN j := fun j _ => by unfold LN; omega
    refine zz_aload rfl dX9_either_62 ?_
    refine zz_geti dX9_either_64 fX9_144 rfl (ol_obj hO hj1) ?_
    refine zz_istore dX9_either_67 (by decide) ?_
    refine zz_iconst (v := 0) (by decide) dX9_either_69 ?_
    refine zz_istore dX9_either_70 (by decide) ?_
    try dsimp only [zz_s1, zz_s2, zz_kill, zz_ent, zz_fl, List.set_cons_zero, List.set_cons_succ, List.getElem?_cons_zero, List.getElem?_cons_succ, Option.toList_some, Option.toList_none, List.cons_append, List.nil_append, List.append_nil, List.length_cons, List.length_nil, List.replicate_succ, List.replicate_zero, Nat.reduceAdd, Nat.reduceSub]
    rw [hc1.2.1]
    have second : ∀ (q a : Nat) (Ix : zz_I), a + q = n j2 → (∀ c, c ≠ 7 → Ix c = I c) → (∀ p, p < n j1 + a → ∀ y, y < 32 → bt (Ix 7 p) y = eE (n j1) (n j2) (E j1) (E j2) p y) → zz_G mX9_either (d + 3) 0 106 [some (.ref 1), some (.int l), some (.int m), some (.int t), some (.ref (LN j1)), some (.ref (LN j2)), some (.ref (LN j3)), some (.int (nI (n j1 + n j2))), some (.int (nI (n j1))), some (.int (nI a))] [] M Ix J Q := by
      intro q
      induction q with
      | zero =>
        intro a Ix ha hf hx
        have ea : a = n j2 := by omega
        subst ea
        refine zz_iload rfl dX9_either_106 ?_
        refine zz_aload rfl dX9_either_108 ?_
        refine zz_geti dX9_either_110 fX9_144 rfl (ol_obj hO hj2) ?_
        try dsimp only [zz_s1, zz_s2, zz_kill, zz_ent, zz_fl, List.set_cons_zero, List.set_cons_succ, List.getElem?_cons_zero, List.getElem?_cons_succ, Option.toList_some, Option.toList_none, List.cons_append, List.nil_append, List.append_nil, List.length_cons, List.length_nil, List.replicate_succ, List.replicate_zero, Nat.reduceAdd, Nat.reduceSub]
        rw [show Ix (LN j2) = I (LN j2) from hf _ (by have := e7 j2 hj2; omega), hc2.2.1]
        refine zz_icmp_ge (tgt := 143) dX9_either_113 (by decide) (fun h6 => ?_) (fun h6 => ?_)
        · refine zz_aload rfl dX9_either_143 ?_
          refine zz_iconst (v := 0) (by decide) dX9_either_145 ?_
          refine zz_iload rfl dX9_either_146 ?_
          try dsimp only [zz_s1, zz_s2, zz_kill, zz_ent, zz_fl, List.set_cons_zero, List.set_cons_succ, List.getElem?_cons_zero, List.getElem?_cons_succ, Option.toList_some, Option.toList_none, List.cons_append, List.nil_append, List.append_nil, List.length_cons, List.length_nil, List.replicate_succ, List.replicate_zero, Nat.reduceAdd, Nat.reduceSub]
          refine zz_cV2 dX9_either_148 lX9_104 rfl (ol_obj hO hj3) rfl rfl (Nat.le_of_ble_eq_true rfl) (Nat.le_of_ble_eq_true rfl) ?_
          refine sp_X3_renew (d + 1) hO hj3 (fun I1 g1 g2 => ?_)
          try dsimp only [zz_s1, zz_s2, zz_kill, zz_ent, zz_fl, List.set_cons_zero, List.set_cons_succ, List.getElem?_cons_zero, List.getElem?_cons_succ, Option.toList_some, Option.toList_none, List.cons_append, List.nil_append, List.append_nil, List.length_cons, List.length_nil, List.replicate_succ, List.replicate_zero, Nat.reduceAdd, Nat.reduceSub]
          refine zz_aload rfl dX9_either_151 ?_
          refine zz_aload_n rfl dX9_either_153 ?_
          refine zz_getr dX9_either_154 fX9_29 (fun _ _ _ _ => rfl) (os_1 hO) (or_1_3 hO) ?_
          try dsimp only [zz_s1, zz_s2, zz_kill, zz_ent, zz_fl, List.set_cons_zero, List.set_cons_succ, List.getElem?_cons_zero, List.getElem?_cons_succ, Option.toList_some, Option.toList_none, List.cons_append, List.nil_append, List.append_nil, List.length_cons, List.length_nil, List.replicate_succ, List.replicate_zero, Nat.reduceAdd, Nat.reduceSub]
          have i7 : I1 7 = Ix 7 := g1 7 (Or.inl (e7 j3 hj3))
          refine zz_cV1 dX9_either_157 lX9_152 rfl (ol_obj hO hj3) rfl rfl (Nat.le_of_ble_eq_true rfl) (Nat.le_of_ble_eq_true rfl) ?_
          refine sp_X3_takeNear (d + 2) hO hj3 hle g2 (E := eE (n j1) (n j2) (E j1) (E j2)) (fun x hx2 y hy2 => by rw [i7]; exact hx x hx2 y hy2) (fun x y hx2 => eE_out hx2) (fun I2 m1 m2 => ?_)
          try dsimp only [zz_s1, zz_s2, zz_kill, zz_ent, zz_fl, List.set_cons_zero, List.set_cons_succ, List.getElem?_cons_zero, List.getElem?_cons_succ, Option.toList_some, Option.toList_none, List.cons_append, List.nil_append, List.append_nil, List.length_cons, List.length_nil, List.replicate_succ, List.replicate_zero, Nat.reduceAdd, Nat.reduceSub]
          refine zz_iload rfl dX9_either_160 ?_
          refine zz_ireturn dX9_either_162 rfl (by first | rfl | decide | assumption) ?_
          have e263 : Ix (LN j3) 2 = I (LN j3) 2 := by rw [hf _ (by have := e7 j3 hj3; omega)]
          rw [e263] at m2
          exact k2 I2 (fun c c1 c2 => (m1 c c2).trans ((g1 c c2).trans (hf c c1))) m2
        · exact absurd (nI_le (Nat.le_refl _) (by omega)) h6
      | succ q ih =>
        intro a Ix ha hf hx
        have fx : ∀ j, j < 8 → ∀ o, Ix (LN j + o) = I (LN j + o) := fun j hj o => hf _ (by have := e7 j hj; omega)
        have fx0 : ∀ j, j < 8 → Ix (LN j) = I (LN j) := fun j hj => fx j hj 0
        refine zz_iload rfl dX9_either_106 ?_
        refine zz_aload rfl dX9_either_108 ?_
        refine zz_geti dX9_either_110 fX9_144 rfl (ol_obj hO hj2) ?_
        try dsimp only [zz_s1, zz_s2, zz_kill, zz_ent, zz_fl, List.set_cons_zero, List.set_cons_succ, List.getElem?_cons_zero, List.getElem?_cons_succ, Option.toList_some, Option.toList_none, List.cons_append, List.nil_append, List.append_nil, List.length_cons, List.length_nil, List.replicate_succ, List.replicate_zero, Nat.reduceAdd, Nat.reduceSub]
        rw [fx0 j2 hj2, hc2.2.1]
        refine zz_icmp_ge (tgt := 143) dX9_either_113 (by decide) (fun h6 => ?_) (fun h6 => ?_)
        · exact absurd h6 (nI_ge (by omega) (by omega))
        · skip
          refine zz_aload_n rfl dX9_either_116 ?_
          refine zz_getr dX9_either_117 fX9_29 (fun _ _ _ _ => rfl) (os_1 hO) (or_1_3 hO) ?_
          refine zz_iload rfl dX9_either_120 ?_
          refine zz_iload rfl dX9_either_122 ?_
          refine zz_iadd dX9_either_124 ?_
          refine zz_aload rfl dX9_either_125 ?_
          refine zz_getr dX9_either_127 fX9_155 (fun _ _ _ _ => rfl) (ol_obj hO hj2) (olr_near hO hj2) ?_
          refine zz_iload rfl dX9_either_130 ?_
          refine zz_iald dX9_either_132 (ol_near hO hj2) (vp_in_nI (show a < 24 by omega) (by decide)) ?_
          refine zz_iload rfl dX9_either_133 ?_
          refine zz_ishl dX9_either_135 ?_
          refine zz_iast dX9_either_136 (os_7 hO) (by rw [nI_add]; exact vp_in_nI (by omega) (by decide)) ?_
          refine zz_iinc dX9_either_137 rfl (congrArg (HAdd.hAdd _) (show Int32.ofInt 1 = 1 by decide)) (by decide) ?_
          refine zz_goto (tgt := 106) dX9_either_140 (by decide) ?_
          try dsimp only [zz_s1, zz_s2, zz_kill, zz_ent, zz_fl, List.set_cons_zero, List.set_cons_succ, List.getElem?_cons_zero, List.getElem?_cons_succ, Option.toList_some, Option.toList_none, List.cons_append, List.nil_append, List.append_nil, List.length_cons, List.length_nil, List.replicate_succ, List.replicate_zero, Nat.reduceAdd, Nat.reduceSub]
          rw [nI_1, nI_add, nI_clamp (show n j1 + a < 2 ^ 31 by omega), nI_clamp (show a < 2 ^ 31 by omega), fx j2 hj2 1]
          refine ih (a + 1) _ (by omega) (fun c c1 => by rw [zz_ui_ne _ _ _ c1]; exact hf c c1) (fun p hp2 y hy2 => ?_)
          rw [zz_ui_at]
          by_cases e : p = n j1 + a
          · subst e
            rw [pk_us, b_shl (n j1) (by omega) _ hy2, eE_hi (by omega) (by omega), hc2.2.2.2.1 a (by omega) _ (by omega), show n j1 + a - n j1 = a by omega]
          · rw [pk_un e]
            exact hx p (by omega) y hy2
    have first : ∀ (q a : Nat) (Ix : zz_I), a + q = n j1 → (∀ c, c ≠ 7 → Ix c = I c) → (∀ p, p < a → ∀ y, y < 32 → bt (Ix 7 p) y = eE (n j1) (n j2) (E j1) (E j2) p y) → zz_G mX9_either (d + 3) 0 72 [some (.ref 1), some (.int l), some (.int m), some (.int t), some (.ref (LN j1)), some (.ref (LN j2)), some (.ref (LN j3)), some (.int (nI (n j1 + n j2))), some (.int (nI (n j1))), some (.int (nI a))] [] M Ix J Q := by
      intro q
      induction q with
      | zero =>
        intro a Ix ha hf hx
        have ea : a = n j1 := by omega
        subst ea
        refine zz_iload rfl dX9_either_72 ?_
        refine zz_aload rfl dX9_either_74 ?_
        refine zz_geti dX9_either_76 fX9_144 rfl (ol_obj hO hj1) ?_
        try dsimp only [zz_s1, zz_s2, zz_kill, zz_ent, zz_fl, List.set_cons_zero, List.set_cons_succ, List.getElem?_cons_zero, List.getElem?_cons_succ, Option.toList_some, Option.toList_none, List.cons_append, List.nil_append, List.append_nil, List.length_cons, List.length_nil, List.replicate_succ, List.replicate_zero, Nat.reduceAdd, Nat.reduceSub]
        rw [show Ix (LN j1) = I (LN j1) from hf _ (by have := e7 j1 hj1; omega), hc1.2.1]
        refine zz_icmp_ge (tgt := 103) dX9_either_79 (by decide) (fun h6 => ?_) (fun h6 => ?_)
        · refine zz_iconst (v := 0) (by decide) dX9_either_103 ?_
          refine zz_istore dX9_either_104 (by decide) ?_
          try dsimp only [zz_s1, zz_s2, zz_kill, zz_ent, zz_fl, List.set_cons_zero, List.set_cons_succ, List.getElem?_cons_zero, List.getElem?_cons_succ, Option.toList_some, Option.toList_none, List.cons_append, List.nil_append, List.append_nil, List.length_cons, List.length_nil, List.replicate_succ, List.replicate_zero, Nat.reduceAdd, Nat.reduceSub]
          exact second (n j2) 0 Ix (by omega) hf (fun p hp2 => hx p (by omega))
        · exact absurd (nI_le (Nat.le_refl _) (by omega)) h6
      | succ q ih =>
        intro a Ix ha hf hx
        have fx : ∀ j, j < 8 → ∀ o, Ix (LN j + o) = I (LN j + o) := fun j hj o => hf _ (by have := e7 j hj; omega)
        have fx0 : ∀ j, j < 8 → Ix (LN j) = I (LN j) := fun j hj => fx j hj 0
        refine zz_iload rfl dX9_either_72 ?_
        refine zz_aload rfl dX9_either_74 ?_
        refine zz_geti dX9_either_76 fX9_144 rfl (ol_obj hO hj1) ?_
        try dsimp only [zz_s1, zz_s2, zz_kill, zz_ent, zz_fl, List.set_cons_zero, List.set_cons_succ, List.getElem?_cons_zero, List.getElem?_cons_succ, Option.toList_some, Option.toList_none, List.cons_append, List.nil_append, List.append_nil, List.length_cons, List.length_nil, List.replicate_succ, List.replicate_zero, Nat.reduceAdd, Nat.reduceSub]
        rw [fx0 j1 hj1, hc1.2.1]
        refine zz_icmp_ge (tgt := 103) dX9_either_79 (by decide) (fun h6 => ?_) (fun h6 => ?_)
        · exact absurd h6 (nI_ge (by omega) (by omega))
        · skip
          refine zz_aload_n rfl dX9_either_82 ?_
          refine zz_getr dX9_either_83 fX9_29 (fun _ _ _ _ => rfl) (os_1 hO) (or_1_3 hO) ?_
          refine zz_iload rfl dX9_either_86 ?_
          refine zz_aload rfl dX9_either_88 ?_
          refine zz_getr dX9_either_90 fX9_155 (fun _ _ _ _ => rfl) (ol_obj hO hj1) (olr_near hO hj1) ?_
          refine zz_iload rfl dX9_either_93 ?_
          refine zz_iald dX9_either_95 (ol_near hO hj1) (vp_in_nI (show a < 24 by omega) (by decide)) ?_
          refine zz_iast dX9_either_96 (os_7 hO) (vp_in_nI (show a < 24 by omega) (by decide)) ?_
          refine zz_iinc dX9_either_97 rfl (congrArg (HAdd.hAdd _) (show Int32.ofInt 1 = 1 by decide)) (by decide) ?_
          refine zz_goto (tgt := 72) dX9_either_100 (by decide) ?_
          try dsimp only [zz_s1, zz_s2, zz_kill, zz_ent, zz_fl, List.set_cons_zero, List.set_cons_succ, List.getElem?_cons_zero, List.getElem?_cons_succ, Option.toList_some, Option.toList_none, List.cons_append, List.nil_append, List.append_nil, List.length_cons, List.length_nil, List.replicate_succ, List.replicate_zero, Nat.reduceAdd, Nat.reduceSub]
          rw [nI_1, nI_clamp (show a < 2 ^ 31 by omega), fx j1 hj1 1]
          refine ih (a + 1) _ (by omega) (fun c c1 => by rw [zz_ui_ne _ _ _ c1]; exact hf c c1) (fun p hp2 y hy2 => ?_)
          rw [zz_ui_at]
          by_cases e : p = a
          · subst e
            rw [pk_us, eE_lo (hw j1 hj1) (by omega), hc1.2.2.2.1 p (by omega) y hy2]
          · rw [pk_un e]
            exact hx p (by omega) y hy2
    exact first (n j1) 0 I (by omega) (fun _ _ => rfl) (fun p hp2 => absurd hp2 (Nat.not_lt_zero p))
  · skip
    refine zz_bipush (v := (-3)) (by decide) dX9_either_59 ?_
    refine zz_ireturn dX9_either_61 rfl (by first | rfl | decide | assumption) ?_
    exact k1 (Nat.lt_of_not_le fun q => h (nI_le (b := 24) q (by decide)))
theorem sp_X10_either (d : Nat) (hO : OK M) {l m t : Int32} (hn : ∀ j, j < 8 → 1 ≤ n j ∧ n j ≤ 24) (hw : ∀ j, j < 8 → wfE (n j) (E j)) (hC : ∀ j, j < 8 → ML I j (n j) (kd j) (ag j) (E j) (sg j) (rw j))
    (h1 : ∀ j1 j2 j3, j1 < 8 → j2 < 8 → j3 < 8 → l = nI j1 → m = nI j2 → t = nI j3 → (24 < n j1 + n j2 → Q (some (.int (-3))) M I J) ∧ (n j1 + n j2 ≤ 24 → ∀ I' : zz_I, (∀ c, c ≠ 268 → (c < 260 ∨ 265 < c) → I' c = I c) → FO j3 I I' → ML I' j3 (n j1 + n j2) 0 (I 265 j3 + 1) (eE (n j1) (n j2) (E j1) (E j2)) (fun _ => 0) (fun _ _ => 0) → Q (some (.int (nI (n j1 + n j2)))) M I' J))
    (h2 : ¬ (vp_in l 8 ∧ vp_in m 8 ∧ vp_in t 8) → Q (some (.int (-2))) M I J) : zz_D mX10_either (d + 3) [.ref 259, .int l, .int m, .int t] M I J Q := by
  refine zz_D_of rfl (Nat.le_of_ble_eq_true rfl) ?_
  try dsimp only [zz_s1, zz_s2, zz_kill, zz_ent, zz_fl, List.set_cons_zero, List.set_cons_succ, List.getElem?_cons_zero, List.getElem?_cons_succ, Option.toList_some, Option.toList_none, List.cons_append, List.nil_append, List.append_nil, List.length_cons, List.length_nil, List.replicate_succ, List.replicate_zero, Nat.reduceAdd, Nat.reduceSub]
  refine zz_iload_n rfl dX10_either_0 ?_
  try dsimp only [zz_s1, zz_s2, zz_kill, zz_ent, zz_fl, List.set_cons_zero, List.set_cons_succ, List.getElem?_cons_zero, List.getElem?_cons_succ, Option.toList_some, Option.toList_none, List.cons_append, List.nil_append, List.append_nil, List.length_cons, List.length_nil, List.replicate_succ, List.replicate_zero, Nat.reduceAdd, Nat.reduceSub]
  refine zz_cS1 dX10_either_1 lX10_85 rfl (Nat.le_of_ble_eq_true rfl) (Nat.le_of_ble_eq_true rfl) ?_
  refine sp_isLine (d + 1) (fun r1 hr1 => ?_)
  try dsimp only [zz_s1, zz_s2, zz_kill, zz_ent, zz_fl, List.set_cons_zero, List.set_cons_succ, List.getElem?_cons_zero, List.getElem?_cons_succ, Option.toList_some, Option.toList_none, List.cons_append, List.nil_append, List.append_nil, List.length_cons, List.length_nil, List.replicate_succ, List.replicate_zero, Nat.reduceAdd, Nat.reduceSub]
  refine zz_if_eq (tgt := 21) dX10_either_4 (by decide) (fun q1 => ?_) (fun q1 => ?_)
  · refine zz_bipush (v := (-2)) (by decide) dX10_either_21 ?_
    refine zz_ireturn dX10_either_23 rfl (by first | rfl | decide | assumption) ?_
    exact h2 (fun q => hr1.f q1 q.1)
  refine zz_iload_n rfl dX10_either_7 ?_
  try dsimp only [zz_s1, zz_s2, zz_kill, zz_ent, zz_fl, List.set_cons_zero, List.set_cons_succ, List.getElem?_cons_zero, List.getElem?_cons_succ, Option.toList_some, Option.toList_none, List.cons_append, List.nil_append, List.append_nil, List.length_cons, List.length_nil, List.replicate_succ, List.replicate_zero, Nat.reduceAdd, Nat.reduceSub]
  refine zz_cS1 dX10_either_8 lX10_85 rfl (Nat.le_of_ble_eq_true rfl) (Nat.le_of_ble_eq_true rfl) ?_
  refine sp_isLine (d + 1) (fun r2 hr2 => ?_)
  try dsimp only [zz_s1, zz_s2, zz_kill, zz_ent, zz_fl, List.set_cons_zero, List.set_cons_succ, List.getElem?_cons_zero, List.getElem?_cons_succ, Option.toList_some, Option.toList_none, List.cons_append, List.nil_append, List.append_nil, List.length_cons, List.length_nil, List.replicate_succ, List.replicate_zero, Nat.reduceAdd, Nat.reduceSub]
  refine zz_if_eq (tgt := 21) dX10_either_11 (by decide) (fun q2 => ?_) (fun q2 => ?_)
  · refine zz_bipush (v := (-2)) (by decide) dX10_either_21 ?_
    refine zz_ireturn dX10_either_23 rfl (by first | rfl | decide | assumption) ?_
    exact h2 (fun q => hr2.f q2 q.2.1)
  refine zz_iload_n rfl dX10_either_14 ?_
  try dsimp only [zz_s1, zz_s2, zz_kill, zz_ent, zz_fl, List.set_cons_zero, List.set_cons_succ, List.getElem?_cons_zero, List.getElem?_cons_succ, Option.toList_some, Option.toList_none, List.cons_append, List.nil_append, List.append_nil, List.length_cons, List.length_nil, List.replicate_succ, List.replicate_zero, Nat.reduceAdd, Nat.reduceSub]
  refine zz_cS1 dX10_either_15 lX10_85 rfl (Nat.le_of_ble_eq_true rfl) (Nat.le_of_ble_eq_true rfl) ?_
  refine sp_isLine (d + 1) (fun r3 hr3 => ?_)
  try dsimp only [zz_s1, zz_s2, zz_kill, zz_ent, zz_fl, List.set_cons_zero, List.set_cons_succ, List.getElem?_cons_zero, List.getElem?_cons_succ, Option.toList_some, Option.toList_none, List.cons_append, List.nil_append, List.append_nil, List.length_cons, List.length_nil, List.replicate_succ, List.replicate_zero, Nat.reduceAdd, Nat.reduceSub]
  refine zz_if_ne (tgt := 24) dX10_either_18 (by decide) (fun q3 => ?_) (fun q3 => ?_)
  rotate_left
  · refine zz_bipush (v := (-2)) (by decide) dX10_either_21 ?_
    refine zz_ireturn dX10_either_23 rfl (by first | rfl | decide | assumption) ?_
    exact h2 (fun q => hr3.f q3 q.2.2)
  obtain ⟨j1, hj1, rfl⟩ := vp_in_of (hr1.t q1) (by decide)
  obtain ⟨j2, hj2, rfl⟩ := vp_in_of (hr2.t q2) (by decide)
  obtain ⟨j3, hj3, rfl⟩ := vp_in_of (hr3.t q3) (by decide)
  obtain ⟨k1, k2⟩ := h1 j1 j2 j3 hj1 hj2 hj3 rfl rfl rfl
  have hc1 := hC j1 hj1
  have hc2 := hC j2 hj2
  have hn1 := hn j1 hj1
  have hn2 := hn j2 hj2
  have v1 : vp_in (nI j1) 8 := vp_in_nI hj1 (by decide)
  have cl1 : (nI j1).toNatClampNeg = j1 := nI_clamp (by omega)
  refine zz_aload_n rfl dX10_either_24 ?_
  refine zz_getr dX10_either_25 fX10_9 (fun _ _ _ _ => rfl) (os_259 hO) (or_259_0 hO) ?_
  refine zz_iload_n rfl dX10_either_28 ?_
  refine zz_iald dX10_either_29 (os_260 hO) v1 ?_
  refine zz_aload_n rfl dX10_either_30 ?_
  refine zz_getr dX10_either_31 fX10_9 (fun _ _ _ _ => rfl) (os_259 hO) (or_259_0 hO) ?_
  refine zz_iload_n rfl dX10_either_34 ?_
  refine zz_iald dX10_either_35 (os_260 hO) (vp_in_nI hj2 (by decide)) ?_
  refine zz_iadd dX10_either_36 ?_
  refine zz_istore dX10_either_37 (by decide) ?_
  refine zz_iload rfl dX10_either_39 ?_
  refine zz_bipush (v := 24) (by decide) dX10_either_41 ?_
  try dsimp only [zz_s1, zz_s2, zz_kill, zz_ent, zz_fl, List.set_cons_zero, List.set_cons_succ, List.getElem?_cons_zero, List.getElem?_cons_succ, Option.toList_some, Option.toList_none, List.cons_append, List.nil_append, List.append_nil, List.length_cons, List.length_nil, List.replicate_succ, List.replicate_zero, Nat.reduceAdd, Nat.reduceSub]
  rw [cl1, nI_clamp (show j2 < 2 ^ 31 by omega), hc1.2.1, hc2.2.1, nI_add]
  refine zz_icmp_le (tgt := 49) dX10_either_43 (by decide) (fun h => ?_) (fun h => ?_)
  · have hle : n j1 + n j2 ≤ 24 := (nI_leI (b := 24) (by omega) (by decide)).mp h
    have k2 := k2 hle
    refine zz_iconst (v := 0) (by decide) dX10_either_49 ?_
    refine zz_istore dX10_either_50 (by decide) ?_
    try dsimp only [zz_s1, zz_s2, zz_kill, zz_ent, zz_fl, List.set_cons_zero, List.set_cons_succ, List.getElem?_cons_zero, List.getElem?_cons_succ, Option.toList_some, Option.toList_none, List.cons_append, List.nil_append, List.append_nil, List.length_cons, List.length_nil, List.replicate_succ, List.replicate_zero, Nat.reduceAdd, Nat.reduceSub]
    have outer : ∀ (q a : Nat) (Ix : zz_I), a + q = n j1 + n j2 → (∀ c, c ≠ 268 → Ix c = I c) → (∀ p, p < a → ∀ y, y < 32 → bt (Ix 268 p) y = eE (n j1) (n j2) (E j1) (E j2) p y) → zz_G mX10_either (d + 3) 0 52 [some (.ref 259), some (.int (nI j1)), some (.int (nI j2)), some (.int (nI j3)), some (.int (nI (n j1 + n j2))), some (.int (nI a))] [] M Ix J Q := by
      intro q
      induction q with
      | zero =>
        intro a Ix ha hf hx
        have ea : a = n j1 + n j2 := by omega
        subst ea
        refine zz_iload rfl dX10_either_52 ?_
        refine zz_iload rfl dX10_either_54 ?_
        try dsimp only [zz_s1, zz_s2, zz_kill, zz_ent, zz_fl, List.set_cons_zero, List.set_cons_succ, List.getElem?_cons_zero, List.getElem?_cons_succ, Option.toList_some, Option.toList_none, List.cons_append, List.nil_append, List.append_nil, List.length_cons, List.length_nil, List.replicate_succ, List.replicate_zero, Nat.reduceAdd, Nat.reduceSub]
        refine zz_icmp_ge (tgt := 124) dX10_either_56 (by decide) (fun h6 => ?_) (fun h6 => ?_)
        · refine zz_aload_n rfl dX10_either_124 ?_
          refine zz_iload_n rfl dX10_either_125 ?_
          refine zz_iload rfl dX10_either_126 ?_
          try dsimp only [zz_s1, zz_s2, zz_kill, zz_ent, zz_fl, List.set_cons_zero, List.set_cons_succ, List.getElem?_cons_zero, List.getElem?_cons_succ, Option.toList_some, Option.toList_none, List.cons_append, List.nil_append, List.append_nil, List.length_cons, List.length_nil, List.replicate_succ, List.replicate_zero, Nat.reduceAdd, Nat.reduceSub]
          refine zz_cV2 dX10_either_128 lX10_128 rfl (os_259 hO) rfl rfl (Nat.le_of_ble_eq_true rfl) (Nat.le_of_ble_eq_true rfl) ?_
          refine sp_X10_put d hO hj3 hle (E := eE (n j1) (n j2) (E j1) (E j2)) hx (fun x y hx2 => eE_out hx2) (fun I2 m1 m2 => ?_)
          try dsimp only [zz_s1, zz_s2, zz_kill, zz_ent, zz_fl, List.set_cons_zero, List.set_cons_succ, List.getElem?_cons_zero, List.getElem?_cons_succ, Option.toList_some, Option.toList_none, List.cons_append, List.nil_append, List.append_nil, List.length_cons, List.length_nil, List.replicate_succ, List.replicate_zero, Nat.reduceAdd, Nat.reduceSub]
          refine zz_ireturn dX10_either_131 rfl (by first | rfl | decide | assumption) ?_
          have e263 : Ix 265 j3 = I 265 j3 := by rw [hf 265 (by decide)]
          rw [e263] at m2
          exact k2 I2 (fun c c1 c2 => (m1.1 c c2).trans (hf c c1)) (FO.tr (FO.of (fun c c1 c2 => hf c (by omega))) m1.2) m2
        · exact absurd (nI_le (Nat.le_refl _) (by omega)) h6
      | succ q ih =>
        intro a Ix ha hf hx
        have s1 : Ix 260 j1 = nI (n j1) := by rw [hf 260 (by decide)]; exact hc1.2.1
        have x260 : Ix 262 = I 262 := hf 262 (by decide)
        refine zz_iload rfl dX10_either_52 ?_
        refine zz_iload rfl dX10_either_54 ?_
        try dsimp only [zz_s1, zz_s2, zz_kill, zz_ent, zz_fl, List.set_cons_zero, List.set_cons_succ, List.getElem?_cons_zero, List.getElem?_cons_succ, Option.toList_some, Option.toList_none, List.cons_append, List.nil_append, List.append_nil, List.length_cons, List.length_nil, List.replicate_succ, List.replicate_zero, Nat.reduceAdd, Nat.reduceSub]
        refine zz_icmp_ge (tgt := 124) dX10_either_56 (by decide) (fun h6 => ?_) (fun h6 => ?_)
        · exact absurd h6 (nI_ge (by omega) (by omega))
        · skip
          have key : ∀ r : Int32, (∀ y, y < 32 → bt r y = eE (n j1) (n j2) (E j1) (E j2) a y) → zz_G mX10_either (d + 3) 0 117 [some (.ref 259), some (.int (nI j1)), some (.int (nI j2)), some (.int (nI j3)), some (.int (nI (n j1 + n j2))), some (.int (nI a))] [.int r, .int (nI a), .ref 268] M Ix J Q := by
            intro r hr
            refine zz_iast dX10_either_117 (os_268 hO) (vp_in_nI (show a < 24 by omega) (by decide)) ?_
            refine zz_iinc dX10_either_118 rfl (congrArg (HAdd.hAdd _) (show Int32.ofInt 1 = 1 by decide)) (by decide) ?_
            refine zz_goto (tgt := 52) dX10_either_121 (by decide) ?_
            try dsimp only [zz_s1, zz_s2, zz_kill, zz_ent, zz_fl, List.set_cons_zero, List.set_cons_succ, List.getElem?_cons_zero, List.getElem?_cons_succ, Option.toList_some, Option.toList_none, List.cons_append, List.nil_append, List.append_nil, List.length_cons, List.length_nil, List.replicate_succ, List.replicate_zero, Nat.reduceAdd, Nat.reduceSub]
            rw [nI_1, nI_clamp (by omega)]
            refine ih (a + 1) _ (by omega) (fun c c1 => by rw [zz_ui_ne _ _ _ c1]; exact hf c c1) (fun p hp2 y hy2 => ?_)
            rw [zz_ui_at]
            by_cases e : p = a
            · subst e; rw [pk_us]; exact hr y hy2
            · rw [pk_un e]; exact hx p (by omega) y hy2
          refine zz_aload_n rfl dX10_either_59 ?_
          refine zz_getr dX10_either_60 fX10_39 (fun _ _ _ _ => rfl) (os_259 hO) (or_259_11 hO) ?_
          refine zz_iload rfl dX10_either_63 ?_
          refine zz_iload rfl dX10_either_65 ?_
          refine zz_aload_n rfl dX10_either_67 ?_
          refine zz_getr dX10_either_68 fX10_9 (fun _ _ _ _ => rfl) (os_259 hO) (or_259_0 hO) ?_
          refine zz_iload_n rfl dX10_either_71 ?_
          refine zz_iald dX10_either_72 (os_260 hO) v1 ?_
          try dsimp only [zz_s1, zz_s2, zz_kill, zz_ent, zz_fl, List.set_cons_zero, List.set_cons_succ, List.getElem?_cons_zero, List.getElem?_cons_succ, Option.toList_some, Option.toList_none, List.cons_append, List.nil_append, List.append_nil, List.length_cons, List.length_nil, List.replicate_succ, List.replicate_zero, Nat.reduceAdd, Nat.reduceSub]
          rw [cl1, s1]
          refine zz_icmp_ge (tgt := 91) dX10_either_73 (by decide) (fun h7 => ?_) (fun h7 => ?_)
          · have hge : n j1 ≤ a := Nat.le_of_not_lt fun z => nI_ge z (by omega) h7
            have ea : (24 : Int32) * nI j2 + nI a - nI (n j1) = nI (24 * j2 + (a - n j1)) := by rw [show (24 : Int32) = nI 24 from rfl, pk_mul, nI_add, pk_sub (by omega)]; congr 1; omega
            refine zz_aload_n rfl dX10_either_91 ?_
            refine zz_getr dX10_either_92 fX10_16 (fun _ _ _ _ => rfl) (os_259 hO) (or_259_2 hO) ?_
            refine zz_bipush (v := 24) (by decide) dX10_either_95 ?_
            refine zz_iload_n rfl dX10_either_97 ?_
            refine zz_imul dX10_either_98 ?_
            refine zz_iload rfl dX10_either_99 ?_
            refine zz_iadd dX10_either_101 ?_
            refine zz_aload_n rfl dX10_either_102 ?_
            refine zz_getr dX10_either_103 fX10_9 (fun _ _ _ _ => rfl) (os_259 hO) (or_259_0 hO) ?_
            refine zz_iload_n rfl dX10_either_106 ?_
            refine zz_iald dX10_either_107 (os_260 hO) v1 ?_
            refine zz_isub dX10_either_108 ?_
            refine zz_iald dX10_either_109 (os_262 hO) (by rw [cl1, s1, ea]; exact vp_in_nI (by omega) (by decide)) ?_
            refine zz_aload_n rfl dX10_either_110 ?_
            refine zz_getr dX10_either_111 fX10_9 (fun _ _ _ _ => rfl) (os_259 hO) (or_259_0 hO) ?_
            refine zz_iload_n rfl dX10_either_114 ?_
            refine zz_iald dX10_either_115 (os_260 hO) v1 ?_
            refine zz_ishl dX10_either_116 ?_
            try dsimp only [zz_s1, zz_s2, zz_kill, zz_ent, zz_fl, List.set_cons_zero, List.set_cons_succ, List.getElem?_cons_zero, List.getElem?_cons_succ, Option.toList_some, Option.toList_none, List.cons_append, List.nil_append, List.append_nil, List.length_cons, List.length_nil, List.replicate_succ, List.replicate_zero, Nat.reduceAdd, Nat.reduceSub]
            rw [cl1, s1, ea, nI_clamp (show 24 * j2 + (a - n j1) < 2 ^ 31 by omega), x260]
            refine key _ (fun y hy2 => ?_)
            rw [b_shl (n j1) (by omega) _ hy2, eE_hi hge (by omega), hc2.2.2.2.1 (a - n j1) (by omega) _ (by omega)]
          · skip
            have hlt : a < n j1 := Nat.lt_of_not_le fun z => h7 (nI_le z (by omega))
            have ea : (24 : Int32) * nI j1 + nI a = nI (24 * j1 + a) := by rw [show (24 : Int32) = nI 24 from rfl, pk_mul, nI_add]
            refine zz_aload_n rfl dX10_either_76 ?_
            refine zz_getr dX10_either_77 fX10_16 (fun _ _ _ _ => rfl) (os_259 hO) (or_259_2 hO) ?_
            refine zz_bipush (v := 24) (by decide) dX10_either_80 ?_
            refine zz_iload_n rfl dX10_either_82 ?_
            refine zz_imul dX10_either_83 ?_
            refine zz_iload rfl dX10_either_84 ?_
            refine zz_iadd dX10_either_86 ?_
            refine zz_iald dX10_either_87 (os_262 hO) (by rw [ea]; exact vp_in_nI (by omega) (by decide)) ?_
            refine zz_goto (tgt := 117) dX10_either_88 (by decide) ?_
            try dsimp only [zz_s1, zz_s2, zz_kill, zz_ent, zz_fl, List.set_cons_zero, List.set_cons_succ, List.getElem?_cons_zero, List.getElem?_cons_succ, Option.toList_some, Option.toList_none, List.cons_append, List.nil_append, List.append_nil, List.length_cons, List.length_nil, List.replicate_succ, List.replicate_zero, Nat.reduceAdd, Nat.reduceSub]
            rw [ea, nI_clamp (show 24 * j1 + a < 2 ^ 31 by omega), x260]
            refine key _ (fun y hy2 => ?_)
            rw [eE_lo (hw j1 hj1) hlt, hc1.2.2.2.1 a (by omega) y hy2]
    exact outer (n j1 + n j2) 0 I (by omega) (fun _ _ => rfl) (fun p hp2 => absurd hp2 (Nat.not_lt_zero p))
  · skip
    refine zz_bipush (v := (-3)) (by decide) dX10_either_46 ?_
    refine zz_ireturn dX10_either_48 rfl (by first | rfl | decide | assumption) ?_
    exact k1 (Nat.lt_of_not_le fun q => h (nI_le (b := 24) q (by decide)))
end PEither

