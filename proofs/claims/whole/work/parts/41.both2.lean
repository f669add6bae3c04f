/-! ===== both, either: the calls ===== -/
section PBoth2
variable {M : zz_M} {I : zz_I} {J : zz_J} {Q : zz_Q} {n : Nat → Nat} {kd ag : Nat → Int32} {E : Nat → Nat → Nat → Bool} {sg : Nat → Nat → Int32} {rw : Nat → Nat → Nat → Int32}
theorem sp_X9_both (d : Nat) (hO : OK M) {l m t : Int32} (hn : ∀ j, j < 8 → 1 ≤ n j ∧ n j ≤ 24) (hw : ∀ j, j < 8 → wfE (n j) (E j)) (hC : ∀ j, j < 8 → CL I j (n j) (kd j) (ag j) (E j) (sg j) (rw j))
    (h1 : ∀ j1 j2 j3, j1 < 8 → j2 < 8 → j3 < 8 → l = nI j1 → m = nI j2 → t = nI j3 → (24 < n j1 * n j2 → Q (some (.int (-3))) M I J) ∧ (n j1 * n j2 ≤ 24 → ∀ I' : zz_I, (∀ c, c ≠ 7 → (c < LN j3 ∨ LN j3 + 29 ≤ c) → I' c = I c) → CL I' j3 (n j1 * n j2) 0 (I (LN j3) 2 + 1) (bE (n j1) (n j2) (E j1) (E j2)) (fun _ => 0) (fun _ _ => 0) → Q (some (.int (nI (n j1 * n j2)))) M I' J))
    (h2 : ¬ (vp_in l 8 ∧ vp_in m 8 ∧ vp_in t 8) → Q (some (.int (-2))) M I J) : zz_D mX9_both (d + 3) [.ref 1, .int l, .int m, .int t] M I J Q := by
  refine zz_D_of rfl (Nat.le_of_ble_eq_true rfl) ?_
  try dsimp only [zz_s1, zz_s2, zz_kill, zz_ent, zz_fl, List.set_cons_zero, List.set_cons_succ, List.getElem?_cons_zero, List.getElem?_cons_succ, Option.toList_some, Option.toList_none, List.cons_append, List.nil_append, List.append_nil, List.length_cons, List.length_nil, List.replicate_succ, List.replicate_zero, Nat.reduceAdd, Nat.reduceSub]
  refine zz_aload_n rfl dX9_both_0 ?_
  refine zz_iload_n rfl dX9_both_1 ?_
  try dsimp only [zz_s1, zz_s2, zz_kill, zz_ent, zz_fl, List.set_cons_zero, List.set_cons_succ, List.getElem?_cons_zero, List.getElem?_cons_succ, Option.toList_some, Option.toList_none, List.cons_append, List.nil_append, List.append_nil, List.length_cons, List.length_nil, List.replicate_succ, List.replicate_zero, Nat.reduceAdd, Nat.reduceSub]
  refine zz_cV1 dX9_both_2 lX9_100 rfl (os_1 hO) rfl rfl (Nat.le_of_ble_eq_true rfl) (Nat.le_of_ble_eq_true rfl) ?_
  refine sp_lineAtQ (d + 2) hO (fun o1 ho1 => ?_)
  try dsimp only [zz_s1, zz_s2, zz_kill, zz_ent, zz_fl, List.set_cons_zero, List.set_cons_succ, List.getElem?_cons_zero, List.getElem?_cons_succ, Option.toList_some, Option.toList_none, List.cons_append, List.nil_append, List.append_nil, List.length_cons, List.length_nil, List.replicate_succ, List.replicate_zero, Nat.reduceAdd, Nat.reduceSub]
  refine zz_astoreQ dX9_both_5 (by decide) rfl ?_
  try dsimp only [zz_s1, zz_s2, zz_kill, zz_ent, zz_fl, List.set_cons_zero, List.set_cons_succ, List.getElem?_cons_zero, List.getElem?_cons_succ, Option.toList_some, Option.toList_none, List.cons_append, List.nil_append, List.append_nil, List.length_cons, List.length_nil, List.replicate_succ, List.replicate_zero, Nat.reduceAdd, Nat.reduceSub]
  refine zz_aload_n rfl dX9_both_7 ?_
  refine zz_iload_n rfl dX9_both_8 ?_
  try dsimp only [zz_s1, zz_s2, zz_kill, zz_ent, zz_fl, List.set_cons_zero, List.set_cons_succ, List.getElem?_cons_zero, List.getElem?_cons_succ, Option.toList_some, Option.toList_none, List.cons_append, List.nil_append, List.append_nil, List.length_cons, List.length_nil, List.replicate_succ, List.replicate_zero, Nat.reduceAdd, Nat.reduceSub]
  refine zz_cV1 dX9_both_9 lX9_100 rfl (os_1 hO) rfl rfl (Nat.le_of_ble_eq_true rfl) (Nat.le_of_ble_eq_true rfl) ?_
  refine sp_lineAtQ (d + 2) hO (fun o2 ho2 => ?_)
  try dsimp only [zz_s1, zz_s2, zz_kill, zz_ent, zz_fl, List.set_cons_zero, List.set_cons_succ, List.getElem?_cons_zero, List.getElem?_cons_succ, Option.toList_some, Option.toList_none, List.cons_append, List.nil_append, List.append_nil, List.length_cons, List.length_nil, List.replicate_succ, List.replicate_zero, Nat.reduceAdd, Nat.reduceSub]
  refine zz_astoreQ dX9_both_12 (by decide) (by cases o1 <;> rfl) ?_
  try dsimp only [zz_s1, zz_s2, zz_kill, zz_ent, zz_fl, List.set_cons_zero, List.set_cons_succ, List.getElem?_cons_zero, List.getElem?_cons_succ, Option.toList_some, Option.toList_none, List.cons_append, List.nil_append, List.append_nil, List.length_cons, List.length_nil, List.replicate_succ, List.replicate_zero, Nat.reduceAdd, Nat.reduceSub]
  refine zz_aload_n rfl dX9_both_14 ?_
  refine zz_iload_n rfl dX9_both_15 ?_
  try dsimp only [zz_s1, zz_s2, zz_kill, zz_ent, zz_fl, List.set_cons_zero, List.set_cons_succ, List.getElem?_cons_zero, List.getElem?_cons_succ, Option.toList_some, Option.toList_none, List.cons_append, List.nil_append, List.append_nil, List.length_cons, List.length_nil, List.replicate_succ, List.replicate_zero, Nat.reduceAdd, Nat.reduceSub]
  refine zz_cV1 dX9_both_16 lX9_100 rfl (os_1 hO) rfl rfl (Nat.le_of_ble_eq_true rfl) (Nat.le_of_ble_eq_true rfl) ?_
  refine sp_lineAtQ (d + 2) hO (fun o3 ho3 => ?_)
  try dsimp only [zz_s1, zz_s2, zz_kill, zz_ent, zz_fl, List.set_cons_zero, List.set_cons_succ, List.getElem?_cons_zero, List.getElem?_cons_succ, Option.toList_some, Option.toList_none, List.cons_append, List.nil_append, List.append_nil, List.length_cons, List.length_nil, List.replicate_succ, List.replicate_zero, Nat.reduceAdd, Nat.reduceSub]
  refine zz_astoreQ dX9_both_19 (by decide) (by cases o2 <;> rfl) ?_
  try dsimp only [zz_s1, zz_s2, zz_kill, zz_ent, zz_fl, List.set_cons_zero, List.set_cons_succ, List.getElem?_cons_zero, List.getElem?_cons_succ, Option.toList_some, Option.toList_none, List.cons_append, List.nil_append, List.append_nil, List.length_cons, List.length_nil, List.replicate_succ, List.replicate_zero, Nat.reduceAdd, Nat.reduceSub]
  have rng : ∀ (v4 v5 v6 : Option Value) (z7 z8 z9 z10 : Option Value), ¬ (vp_in l 8 ∧ vp_in m 8 ∧ vp_in t 8) → zz_G mX9_both (d + 3) 0 36 [some (.ref 1), some (.int l), some (.int m), some (.int t), v4, v5, v6, z7, z8, z9, z10] [] M I J Q := by
    intro v4 v5 v6 z7 z8 z9 z10 q
    refine zz_bipush (v := (-2)) (by decide) dX9_both_36 ?_
    refine zz_ireturn dX9_both_38 rfl (by first | rfl | decide | assumption) ?_
    exact h2 q
  rcases ho1 with ⟨rfl, q1⟩ | ⟨j1, hj1, e1, rfl⟩
  · refine zz_nload rfl dX9_both_21 ?_
    refine zz_ifnullN (tgt := 36) dX9_both_23 (by decide) ?_
    exact rng _ _ _ _ _ _ _ (fun q => q1 q.1)
  refine zz_aload rfl dX9_both_21 ?_
  refine zz_ifnull dX9_both_23 ?_
  rcases ho2 with ⟨rfl, q1⟩ | ⟨j2, hj2, e2, rfl⟩
  · refine zz_nload rfl dX9_both_26 ?_
    refine zz_ifnullN (tgt := 36) dX9_both_28 (by decide) ?_
    exact rng _ _ _ _ _ _ _ (fun q => q1 q.2.1)
  refine zz_aload rfl dX9_both_26 ?_
  refine zz_ifnull dX9_both_28 ?_
  rcases ho3 with ⟨rfl, q1⟩ | ⟨j3, hj3, e3, rfl⟩
  · refine zz_nload rfl dX9_both_31 ?_
    refine zz_ifnonnullN dX9_both_33 ?_
    exact rng _ _ _ _ _ _ _ (fun q => q1 q.2.2)
  refine zz_aload rfl dX9_both_31 ?_
  refine zz_ifnonnull (tgt := 39) dX9_both_33 (by decide) ?_
  obtain ⟨k1, k2⟩ := h1 j1 j2 j3 hj1 hj2 hj3 e1 e2 e3
  have hc1 := hC j1 hj1
  have hc2 := hC j2 hj2
  have hc3 := hC j3 hj3
  have hn1 := hn j1 hj1
  have hn2 := hn j2 hj2
  have hp : n j1 * n j2 ≤ 24 * 24 := Nat.mul_le_mul hn1.2 hn2.2
  refine zz_aload rfl dX9_both_39 ?_
  refine zz_geti dX9_both_41 fX9_144 rfl (ol_obj hO hj1) ?_
  refine zz_aload rfl dX9_both_44 ?_
  refine zz_geti dX9_both_46 fX9_144 rfl (ol_obj hO hj2) ?_
  refine zz_imul dX9_both_49 ?_
  refine zz_istore dX9_both_50 (by decide) ?_
  refine zz_iload rfl dX9_both_52 ?_
  refine zz_bipush (v := 24) (by decide) dX9_both_54 ?_
  try dsimp only [zz_s1, zz_s2, zz_kill, zz_ent, zz_fl, List.set_cons_zero, List.set_cons_succ, List.getElem?_cons_zero, List.getElem?_cons_succ, Option.toList_some, Option.toList_none, List.cons_append, List.nil_append, List.append_nil, List.length_cons, List.length_nil, List.replicate_succ, List.replicate_zero, Nat.reduceAdd, Nat.reduceSub]
  rw [hc1.2.1, hc2.2.1, pk_mul]
  show zz_G mX9_both (d + 3) 0 56 [some (.ref 1), some (.int l), some (.int m), some (.int t), some (.ref (LN j1)), some (.ref (LN j2)), some (.ref (LN j3)), some (.int (nI (n j1 * n j2))), none, none, none] _ M I J Q
  refine zz_icmp_le (tgt := 62) dX9_both_56 (by decide) (fun h => ?_) (fun h => ?_)
  · have hle : n j1 * n j2 ≤ 24 := (nI_leI (b := 24) (by omega) (by decide)).mp h
    have k2 := k2 hle
    refine zz_iconst (v := 0) (by decide) dX9_both_62 ?_
    refine zz_istore dX9_both_63 (by decide) ?_
    try dsimp only [zz_s1, zz_s2, zz_kill, zz_ent, zz_fl, List.set_cons_zero, List.set_cons_succ, List.getElem?_cons_zero, List.getElem?_cons_succ, Option.toList_some, Option.toList_none, List.cons_append, List.nil_append, List.append_nil, List.length_cons, List.length_nil, List.replicate_succ, List.replicate_zero, Nat.reduceAdd, Nat.reduceSub]
    have e7 : ∀ j, j < 8 → 7 < LN j := fun j _ => by unfold LN; omega
    have outer : ∀ (q a : Nat) (Ix : zz_I) (z9 z10 : Option Value), a + q = n j1 → (∀ c, c ≠ 7 → Ix c = I c) → (∀ p, p < a * n j2 → ∀ y, y < 32 → bt (Ix 7 p) y = bE (n j1) (n j2) (E j1) (E j2) p y) → zz_G mX9_both (d + 3) 0 65 [some (.ref 1), some (.int l), some (.int m), some (.int t), some (.ref (LN j1)), some (.ref (LN j2)), some (.ref (LN j3)), some (.int (nI (n j1 * n j2))), some (.int (nI a)), z9, z10] [] M Ix J Q := by
      intro q
      induction q with
      | zero =>
        intro a Ix z9 z10 ha hf hx
        have ea : a = n j1 := by omega
        subst ea
        refine zz_iload rfl dX9_both_65 ?_
        refine zz_aload rfl dX9_both_67 ?_
        refine zz_geti dX9_both_69 fX9_144 rfl (ol_obj hO hj1) ?_
        try dsimp only [zz_s1, zz_s2, zz_kill, zz_ent, zz_fl, List.set_cons_zero, List.set_cons_succ, List.getElem?_cons_zero, List.getElem?_cons_succ, Option.toList_some, Option.toList_none, List.cons_append, List.nil_append, List.append_nil, List.length_cons, List.length_nil, List.replicate_succ, List.replicate_zero, Nat.reduceAdd, Nat.reduceSub]
        rw [show Ix (LN j1) = I (LN j1) from hf _ (by have := e7 j1 hj1; omega), hc1.2.1]
        refine zz_icmp_ge (tgt := 138) dX9_both_72 (by decide) (fun h6 => ?_) (fun h6 => ?_)
        · refine zz_aload rfl dX9_both_138 ?_
          refine zz_iconst (v := 0) (by decide) dX9_both_140 ?_
          refine zz_iload rfl dX9_both_141 ?_
          try dsimp only [zz_s1, zz_s2, zz_kill, zz_ent, zz_fl, List.set_cons_zero, List.set_cons_succ, List.getElem?_cons_zero, List.getElem?_cons_succ, Option.toList_some, Option.toList_none, List.cons_append, List.nil_append, List.append_nil, List.length_cons, List.length_nil, List.replicate_succ, List.replicate_zero, Nat.reduceAdd, Nat.reduceSub]
          refine zz_cV2 dX9_both_143 lX9_104 rfl (ol_obj hO hj3) rfl rfl (Nat.le_of_ble_eq_true rfl) (Nat.le_of_ble_eq_true rfl) ?_
          refine sp_X3_renew (d + 1) hO hj3 (fun I1 g1 g2 => ?_)
          try dsimp only [zz_s1, zz_s2, zz_kill, zz_ent, zz_fl, List.set_cons_zero, List.set_cons_succ, List.getElem?_cons_zero, List.getElem?_cons_succ, Option.toList_some, Option.toList_none, List.cons_append, List.nil_append, List.append_nil, List.length_cons, List.length_nil, List.replicate_succ, List.replicate_zero, Nat.reduceAdd, Nat.reduceSub]
          refine zz_aload rfl dX9_both_146 ?_
          refine zz_aload_n rfl dX9_both_148 ?_
          refine zz_getr dX9_both_149 fX9_29 (fun _ _ _ _ => rfl) (os_1 hO) (or_1_3 hO) ?_
          try dsimp only [zz_s1, zz_s2, zz_kill, zz_ent, zz_fl, List.set_cons_zero, List.set_cons_succ, List.getElem?_cons_zero, List.getElem?_cons_succ, Option.toList_some, Option.toList_none, List.cons_append, List.nil_append, List.append_nil, List.length_cons, List.length_nil, List.replicate_succ, List.replicate_zero, Nat.reduceAdd, Nat.reduceSub]
          have i7 : I1 7 = Ix 7 := g1 7 (Or.inl (e7 j3 hj3))
          refine zz_cV1 dX9_both_152 lX9_152 rfl (ol_obj hO hj3) rfl rfl (Nat.le_of_ble_eq_true rfl) (Nat.le_of_ble_eq_true rfl) ?_
          refine sp_X3_takeNear (d + 2) hO hj3 hle g2 (E := bE (n j1) (n j2) (E j1) (E j2)) (fun x hx2 y hy2 => by rw [i7]; exact hx x hx2 y hy2) (fun x y hx2 => by unfold bE; simp; omega) (fun I2 m1 m2 => ?_)
          try dsimp only [zz_s1, zz_s2, zz_kill, zz_ent, zz_fl, List.set_cons_zero, List.set_cons_succ, List.getElem?_cons_zero, List.getElem?_cons_succ, Option.toList_some, Option.toList_none, List.cons_append, List.nil_append, List.append_nil, List.length_cons, List.length_nil, List.replicate_succ, List.replicate_zero, Nat.reduceAdd, Nat.reduceSub]
          refine zz_iload rfl dX9_both_155 ?_
          refine zz_ireturn dX9_both_157 rfl (by first | rfl | decide | assumption) ?_
          have e263 : Ix (LN j3) 2 = I (LN j3) 2 := by rw [hf _ (by have := e7 j3 hj3; omega)]
          rw [e263] at m2
          exact k2 I2 (fun c c1 c2 => (m1 c c2).trans ((g1 c c2).trans (hf c c1))) m2
        · exact absurd (nI_le (Nat.le_refl _) (by omega)) h6
      | succ q ih =>
        intro a Ix z9 z10 ha hf hx
        have fx : ∀ j, j < 8 → ∀ o, Ix (LN j + o) = I (LN j + o) := fun j hj o => hf _ (by have := e7 j hj; omega)
        have fx0 : ∀ j, j < 8 → Ix (LN j) = I (LN j) := fun j hj => fx j hj 0
        have han : (a + 1) * n j2 ≤ n j1 * n j2 := Nat.mul_le_mul_right _ (by omega)
        have ha1 : (a + 1) * n j2 = a * n j2 + n j2 := Nat.succ_mul a (n j2)
        refine zz_iload rfl dX9_both_65 ?_
        refine zz_aload rfl dX9_both_67 ?_
        refine zz_geti dX9_both_69 fX9_144 rfl (ol_obj hO hj1) ?_
        try dsimp only [zz_s1, zz_s2, zz_kill, zz_ent, zz_fl, List.set_cons_zero, List.set_cons_succ, List.getElem?_cons_zero, List.getElem?_cons_succ, Option.toList_some, Option.toList_none, List.cons_append, List.nil_append, List.append_nil, List.length_cons, List.length_nil, List.replicate_succ, List.replicate_zero, Nat.reduceAdd, Nat.reduceSub]
        rw [fx0 j1 hj1, hc1.2.1]
        refine zz_icmp_ge (tgt := 138) dX9_both_72 (by decide) (fun h6 => ?_) (fun h6 => ?_)
        · exact absurd h6 (nI_ge (by omega) (by omega))
        · skip
          refine zz_iconst (v := 0) (by decide) dX9_both_75 ?_
          refine zz_istore dX9_both_76 (by decide) ?_
          try dsimp only [zz_s1, zz_s2, zz_kill, zz_ent, zz_fl, List.set_cons_zero, List.set_cons_succ, List.getElem?_cons_zero, List.getElem?_cons_succ, Option.toList_some, Option.toList_none, List.cons_append, List.nil_append, List.append_nil, List.length_cons, List.length_nil, List.replicate_succ, List.replicate_zero, Nat.reduceAdd, Nat.reduceSub]
          have inn : ∀ (w b : Nat) (Iy : zz_I) (z10 : Option Value), b + w = n j2 → (∀ c, c ≠ 7 → Iy c = I c) → (∀ p, p < a * n j2 + b → ∀ y, y < 32 → bt (Iy 7 p) y = bE (n j1) (n j2) (E j1) (E j2) p y) → zz_G mX9_both (d + 3) 0 78 [some (.ref 1), some (.int l), some (.int m), some (.int t), some (.ref (LN j1)), some (.ref (LN j2)), some (.ref (LN j3)), some (.int (nI (n j1 * n j2))), some (.int (nI a)), some (.int (nI b)), z10] [] M Iy J Q := by
            intro w
            induction w with
            | zero =>
              intro b Iy z10 hb hfy hy
              have eb : b = n j2 := by omega
              subst eb
              refine zz_iload rfl dX9_both_78 ?_
              refine zz_aload rfl dX9_both_80 ?_
              refine zz_geti dX9_both_82 fX9_144 rfl (ol_obj hO hj2) ?_
              try dsimp only [zz_s1, zz_s2, zz_kill, zz_ent, zz_fl, List.set_cons_zero, List.set_cons_succ, List.getElem?_cons_zero, List.getElem?_cons_succ, Option.toList_some, Option.toList_none, List.cons_append, List.nil_append, List.append_nil, List.length_cons, List.length_nil, List.replicate_succ, List.replicate_zero, Nat.reduceAdd, Nat.reduceSub]
              rw [show Iy (LN j2) = I (LN j2) from hfy _ (by have := e7 j2 hj2; omega), hc2.2.1]
              refine zz_icmp_ge (tgt := 132) dX9_both_85 (by decide) (fun h7 => ?_) (fun h7 => ?_)
              · refine zz_iinc dX9_both_132 rfl (congrArg (HAdd.hAdd _) (show Int32.ofInt 1 = 1 by decide)) (by decide) ?_
                refine zz_goto (tgt := 65) dX9_both_135 (by decide) ?_
                try dsimp only [zz_s1, zz_s2, zz_kill, zz_ent, zz_fl, List.set_cons_zero, List.set_cons_succ, List.getElem?_cons_zero, List.getElem?_cons_succ, Option.toList_some, Option.toList_none, List.cons_append, List.nil_append, List.append_nil, List.length_cons, List.length_nil, List.replicate_succ, List.replicate_zero, Nat.reduceAdd, Nat.reduceSub]
                rw [nI_1]
                refine ih (a + 1) Iy _ _ (by omega) hfy (fun p hp2 => hy p (by omega))
              · exact absurd (nI_le (Nat.le_refl _) (by omega)) h7
            | succ w ih2 =>
              intro b Iy z10 hb hfy hy
              have gx : ∀ j, j < 8 → ∀ o, Iy (LN j + o) = I (LN j + o) := fun j hj o => hfy _ (by have := e7 j hj; omega)
              have gx0 : ∀ j, j < 8 → Iy (LN j) = I (LN j) := fun j hj => gx j hj 0
              refine zz_iload rfl dX9_both_78 ?_
              refine zz_aload rfl dX9_both_80 ?_
              refine zz_geti dX9_both_82 fX9_144 rfl (ol_obj hO hj2) ?_
              try dsimp only [zz_s1, zz_s2, zz_kill, zz_ent, zz_fl, List.set_cons_zero, List.set_cons_succ, List.getElem?_cons_zero, List.getElem?_cons_succ, Option.toList_some, Option.toList_none, List.cons_append, List.nil_append, List.append_nil, List.length_cons, List.length_nil, List.replicate_succ, List.replicate_zero, Nat.reduceAdd, Nat.reduceSub]
              rw [gx0 j2 hj2, hc2.2.1]
              refine zz_icmp_ge (tgt := 132) dX9_both_85 (by decide) (fun h7 => ?_) (fun h7 => ?_)
              · exact absurd h7 (nI_ge (by omega) (by omega))
              · skip
                refine zz_iload rfl dX9_both_88 ?_
                refine zz_aload rfl dX9_both_90 ?_
                refine zz_geti dX9_both_92 fX9_144 rfl (ol_obj hO hj2) ?_
                refine zz_imul dX9_both_95 ?_
                refine zz_iload rfl dX9_both_96 ?_
                refine zz_iadd dX9_both_98 ?_
                refine zz_istore dX9_both_99 (by decide) ?_
                refine zz_aload_n rfl dX9_both_101 ?_
                refine zz_getr dX9_both_102 fX9_29 (fun _ _ _ _ => rfl) (os_1 hO) (or_1_3 hO) ?_
                refine zz_iload rfl dX9_both_105 ?_
                refine zz_aload rfl dX9_both_107 ?_
                refine zz_iload rfl dX9_both_109 ?_
                refine zz_aload rfl dX9_both_111 ?_
                refine zz_iload rfl dX9_both_113 ?_
                try dsimp only [zz_s1, zz_s2, zz_kill, zz_ent, zz_fl, List.set_cons_zero, List.set_cons_succ, List.getElem?_cons_zero, List.getElem?_cons_succ, Option.toList_some, Option.toList_none, List.cons_append, List.nil_append, List.append_nil, List.length_cons, List.length_nil, List.replicate_succ, List.replicate_zero, Nat.reduceAdd, Nat.reduceSub]
                rw [gx0 j2 hj2, hc2.2.1, pk_mul, nI_add]
                refine zz_cS4 dX9_both_115 lX9_148 rfl (Nat.le_of_ble_eq_true rfl) (Nat.le_of_ble_eq_true rfl) ?_
                refine sp_pairsNear d hO hj1 hj2 (n1 := n j1) (n2 := n j2) (E1 := E j1) (E2 := E j2) (by rw [gx0 j1 hj1]; exact hc1.2.1) (by rw [gx0 j2 hj2]; exact hc2.2.1) hle hn1.2 hn2.2 (show a < n j1 by omega) (show b < n j2 by omega) (fun x hx2 y hy2 => by rw [gx j1 hj1 1]; exact hc1.2.2.2.1 x hx2 y hy2) (fun x hx2 y hy2 => by rw [gx j2 hj2 1]; exact hc2.2.2.2.1 x hx2 y hy2) (hw j2 hj2) (fun r hr => ?_)
                try dsimp only [zz_s1, zz_s2, zz_kill, zz_ent, zz_fl, List.set_cons_zero, List.set_cons_succ, List.getElem?_cons_zero, List.getElem?_cons_succ, Option.toList_some, Option.toList_none, List.cons_append, List.nil_append, List.append_nil, List.length_cons, List.length_nil, List.replicate_succ, List.replicate_zero, Nat.reduceAdd, Nat.reduceSub]
                refine zz_iconst (v := 1) (by decide) dX9_both_118 ?_
                refine zz_iload rfl dX9_both_119 ?_
                refine zz_ishl dX9_both_121 ?_
                refine zz_iconst (v := (-1)) (by decide) dX9_both_122 ?_
                refine zz_ixor dX9_both_123 ?_
                refine zz_iand dX9_both_124 ?_
                refine zz_iast dX9_both_125 (os_7 hO) (vp_in_nI (by omega) (by decide)) ?_
                refine zz_iinc dX9_both_126 rfl (congrArg (HAdd.hAdd _) (show Int32.ofInt 1 = 1 by decide)) (by decide) ?_
                refine zz_goto (tgt := 78) dX9_both_129 (by decide) ?_
                try dsimp only [zz_s1, zz_s2, zz_kill, zz_ent, zz_fl, List.set_cons_zero, List.set_cons_succ, List.getElem?_cons_zero, List.getElem?_cons_succ, Option.toList_some, Option.toList_none, List.cons_append, List.nil_append, List.append_nil, List.length_cons, List.length_nil, List.replicate_succ, List.replicate_zero, Nat.reduceAdd, Nat.reduceSub]
                rw [nI_1, nI_clamp (by omega)]
                refine ih2 (b + 1) _ _ (by omega) (fun c c1 => by rw [zz_ui_ne _ _ _ c1]; exact hfy c c1) (fun p hp2 y hy2 => ?_)
                rw [zz_ui_at]
                by_cases e : p = a * n j2 + b
                · subst e
                  rw [pk_us, b_and, b_xor, b_m1 y hy2, b_bit (by omega) hy2]
                  have hdm := ab_dm (n2 := n j2) (c := a) (e := b) (by omega)
                  rw [Bool.eq_iff_iff, Bool.and_eq_true, hr y hy2, bE_iff, hdm.1, hdm.2]
                  simp only [bne_iff_ne, Bool.bne_true, Bool.not_eq_true', decide_eq_false_iff_not]
                  constructor
                  · exact fun z => ⟨⟨by omega, z.1.1, fun q => z.2 q.symm⟩, z.1.2⟩
                  · exact fun z => ⟨⟨z.1.2.1, z.2⟩, fun q => z.1.2.2 q.symm⟩
                · rw [pk_un e]
                  exact hy p (by omega) y hy2
          exact inn (n j2) 0 Ix _ (by omega) hf (fun p hp2 => hx p (by omega))
    exact outer (n j1) 0 I _ _ (by omega) (fun _ _ => rfl) (fun p hp2 => by rw [Nat.zero_mul] at hp2; exact absurd hp2 (Nat.not_lt_zero p))
  · skip
    refine zz_bipush (v := (-3)) (by decide) dX9_both_59 ?_
    refine zz_ireturn dX9_both_61 rfl (by first | rfl | decide | assumption) ?_
    exact k1 (Nat.lt_of_not_le fun q => h (nI_le (b := 24) q (by decide)))
end PBoth2

