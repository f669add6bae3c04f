/-! ===== stands ===== -/
section PStands
variable {M : zz_M} {I : zz_I} {J : zz_J} {Q : zz_Q}
theorem h100 (a b : Nat) : (100 : Int32) * nI a + nI b = nI (100 * a + b) := by rw [show (100 : Int32) = nI 100 from rfl, pk_mul, nI_add]
theorem h10k (a : Nat) : (10000 : Int32) + nI a = nI (10000 + a) := by rw [show (10000 : Int32) = nI 10000 from rfl, nI_add]
theorem sp_firstFlaw (d : Nat) (hO : OK M) {l n : Nat} {kd ag : Int32} {E : Nat → Nat → Bool} {sg : Nat → Int32} {rw : Nat → Nat → Int32} (hl : l < 8) (hn : n ≤ 24) (hc : CL I l n kd ag E sg rw) (hQ : Q (some (.int (ff n E rw))) M I J) : zz_D mX6_firstFlaw (d + 1) [.ref 16, .ref (LN l)] M I J Q := by
  have hrow : ∀ a, a < 25 → ∀ i, i < 6 → I (LN l + 4 + a) i = rw a i := hc.2.2.2.2.2
  have lt25 : ∀ a, a < 25 → (nI a).toNatClampNeg < 25 := fun a ha => by rw [nI_clamp (by omega)]; exact ha
  have row6 : ∀ a, a < 25 → ∀ i, i < 6 → I (LN l + 4 + (nI a).toNatClampNeg) i = rw a i := fun a ha i hi => by rw [nI_clamp (by omega)]; exact hrow a ha i hi
  refine zz_D_of rfl (Nat.le_of_ble_eq_true rfl) ?_
  try dsimp only [zz_s1, zz_s2, zz_kill, zz_ent, zz_fl, List.set_cons_zero, List.set_cons_succ, List.getElem?_cons_zero, List.getElem?_cons_succ, Option.toList_some, Option.toList_none, List.cons_append, List.nil_append, List.append_nil, List.length_cons, List.length_nil, List.replicate_succ, List.replicate_zero, Nat.reduceAdd, Nat.reduceSub]
  refine zz_iconst (v := 0) (by decide) dX6_firstFlaw_0 ?_
  refine zz_istore_n dX6_firstFlaw_1 (by decide) ?_
  try dsimp only [zz_s1, zz_s2, zz_kill, zz_ent, zz_fl, List.set_cons_zero, List.set_cons_succ, List.getElem?_cons_zero, List.getElem?_cons_succ, Option.toList_some, Option.toList_none, List.cons_append, List.nil_append, List.append_nil, List.length_cons, List.length_nil, List.replicate_succ, List.replicate_zero, Nat.reduceAdd, Nat.reduceSub]
  have third : ∀ (q a : Nat) (z : Option Value), a + q = n → (ff n E rw = match fl3 rw q a with | some x => x | none => -1) → zz_G mX6_firstFlaw (d + 1) 0 70 [some (.ref 16), some (.ref (LN l)), some (.int (nI a)), z] [] M I J Q := by
    intro q
    induction q with
    | zero =>
      intro a z ha hf
      have ea : a = n := by omega
      subst ea
      refine zz_iload_n rfl dX6_firstFlaw_70 ?_
      refine zz_aload_n rfl dX6_firstFlaw_71 ?_
      refine zz_geti dX6_firstFlaw_72 fX6_21 rfl (ol_obj hO hl) ?_
      try dsimp only [zz_s1, zz_s2, zz_kill, zz_ent, zz_fl, List.set_cons_zero, List.set_cons_succ, List.getElem?_cons_zero, List.getElem?_cons_succ, Option.toList_some, Option.toList_none, List.cons_append, List.nil_append, List.append_nil, List.length_cons, List.length_nil, List.replicate_succ, List.replicate_zero, Nat.reduceAdd, Nat.reduceSub]
      rw [hc.2.1]
      refine zz_icmp_ge (tgt := 109) dX6_firstFlaw_75 (by decide) (fun h => ?_) (fun h => ?_)
      · refine zz_iconst (v := (-1)) (by decide) dX6_firstFlaw_109 ?_
        refine zz_ireturn dX6_firstFlaw_110 rfl (by first | rfl | decide | assumption) ?_
        rw [hf] at hQ
        exact hQ
      · exact absurd (nI_le (Nat.le_refl _) (by omega)) h
    | succ q ih =>
      intro a z ha hf
      unfold fl3 at hf
      refine zz_iload_n rfl dX6_firstFlaw_70 ?_
      refine zz_aload_n rfl dX6_firstFlaw_71 ?_
      refine zz_geti dX6_firstFlaw_72 fX6_21 rfl (ol_obj hO hl) ?_
      try dsimp only [zz_s1, zz_s2, zz_kill, zz_ent, zz_fl, List.set_cons_zero, List.set_cons_succ, List.getElem?_cons_zero, List.getElem?_cons_succ, Option.toList_some, Option.toList_none, List.cons_append, List.nil_append, List.append_nil, List.length_cons, List.length_nil, List.replicate_succ, List.replicate_zero, Nat.reduceAdd, Nat.reduceSub]
      rw [hc.2.1]
      refine zz_icmp_ge (tgt := 109) dX6_firstFlaw_75 (by decide) (fun h => ?_) (fun h => ?_)
      · exact absurd h (nI_ge (by omega) (by omega))
      · skip
        refine zz_aload_n rfl dX6_firstFlaw_78 ?_
        refine zz_getr dX6_firstFlaw_79 fX6_30 (fun _ _ _ _ => rfl) (ol_obj hO hl) (olr_num hO hl) ?_
        refine zz_iload_n rfl dX6_firstFlaw_82 ?_
        refine zz_aaldI dX6_firstFlaw_83 (ol_num hO hl) (vp_in_nI (show a < 25 by omega) (by decide)) (olr_row hO hl (lt25 a (by omega))) ?_
        refine zz_aload_n rfl dX6_firstFlaw_84 ?_
        refine zz_getr dX6_firstFlaw_85 fX6_30 (fun _ _ _ _ => rfl) (ol_obj hO hl) (olr_num hO hl) ?_
        refine zz_bipush (v := 24) (by decide) dX6_firstFlaw_88 ?_
        refine zz_aaldI dX6_firstFlaw_90 (ol_num hO hl) (vp_in_nI (n := 24) (by decide) (by decide)) (olr_row hO hl (lt25 24 (by decide))) ?_
        try dsimp only [zz_s1, zz_s2, zz_kill, zz_ent, zz_fl, List.set_cons_zero, List.set_cons_succ, List.getElem?_cons_zero, List.getElem?_cons_succ, Option.toList_some, Option.toList_none, List.cons_append, List.nil_append, List.append_nil, List.length_cons, List.length_nil, List.replicate_succ, List.replicate_zero, Nat.reduceAdd, Nat.reduceSub]
        refine zz_cS2 dX6_firstFlaw_91 lX6_34 rfl (Nat.le_of_ble_eq_true rfl) (Nat.le_of_ble_eq_true rfl) ?_
        refine sp_X6_product d (ol_row hO hl (lt25 a (by omega))) (ol_row hO hl (lt25 24 (by decide))) (row6 a (by omega)) (row6 24 (by decide)) ?_
        try dsimp only [zz_s1, zz_s2, zz_kill, zz_ent, zz_fl, List.set_cons_zero, List.set_cons_succ, List.getElem?_cons_zero, List.getElem?_cons_succ, Option.toList_some, Option.toList_none, List.cons_append, List.nil_append, List.append_nil, List.length_cons, List.length_nil, List.replicate_succ, List.replicate_zero, Nat.reduceAdd, Nat.reduceSub]
        refine zz_if_ne (tgt := 103) dX6_firstFlaw_94 (by decide) (fun h2 => ?_) (fun h2 => ?_)
        · refine zz_iinc dX6_firstFlaw_103 rfl (congrArg (HAdd.hAdd _) (show Int32.ofInt 1 = 1 by decide)) (by decide) ?_
          refine zz_goto (tgt := 70) dX6_firstFlaw_106 (by decide) ?_
          try dsimp only [zz_s1, zz_s2, zz_kill, zz_ent, zz_fl, List.set_cons_zero, List.set_cons_succ, List.getElem?_cons_zero, List.getElem?_cons_succ, Option.toList_some, Option.toList_none, List.cons_append, List.nil_append, List.append_nil, List.length_cons, List.length_nil, List.replicate_succ, List.replicate_zero, Nat.reduceAdd, Nat.reduceSub]
          rw [nI_1]
          rw [if_neg h2] at hf
          exact ih (a + 1) _ (by omega) hf
        · skip
          refine zz_sipush (v := 10000) (by decide) dX6_firstFlaw_97 ?_
          refine zz_iload_n rfl dX6_firstFlaw_100 ?_
          refine zz_iadd dX6_firstFlaw_101 ?_
          refine zz_ireturn dX6_firstFlaw_102 rfl (by first | rfl | decide | assumption) ?_
          rw [if_pos h2] at hf
          have hf : ff n E rw = nI (10000 + a) := hf
          rw [h10k, ← hf]
          exact hQ
  have outer : ∀ (q a : Nat) (z : Option Value), a + q = n → (ff n E rw = match fl1 E rw q a with | some x => x | none => match fl3 rw n 0 with | some x => x | none => -1) → zz_G mX6_firstFlaw (d + 1) 0 2 [some (.ref 16), some (.ref (LN l)), some (.int (nI a)), z] [] M I J Q := by
    intro q
    induction q with
    | zero =>
      intro a z ha hf
      have ea : a = n := by omega
      subst ea
      refine zz_iload_n rfl dX6_firstFlaw_2 ?_
      refine zz_aload_n rfl dX6_firstFlaw_3 ?_
      refine zz_geti dX6_firstFlaw_4 fX6_21 rfl (ol_obj hO hl) ?_
      try dsimp only [zz_s1, zz_s2, zz_kill, zz_ent, zz_fl, List.set_cons_zero, List.set_cons_succ, List.getElem?_cons_zero, List.getElem?_cons_succ, Option.toList_some, Option.toList_none, List.cons_append, List.nil_append, List.append_nil, List.length_cons, List.length_nil, List.replicate_succ, List.replicate_zero, Nat.reduceAdd, Nat.reduceSub]
      rw [hc.2.1]
      refine zz_icmp_ge (tgt := 68) dX6_firstFlaw_7 (by decide) (fun h => ?_) (fun h => ?_)
      · refine zz_iconst (v := 0) (by decide) dX6_firstFlaw_68 ?_
        refine zz_istore_n dX6_firstFlaw_69 (by decide) ?_
        try dsimp only [zz_s1, zz_s2, zz_kill, zz_ent, zz_fl, List.set_cons_zero, List.set_cons_succ, List.getElem?_cons_zero, List.getElem?_cons_succ, Option.toList_some, Option.toList_none, List.cons_append, List.nil_append, List.append_nil, List.length_cons, List.length_nil, List.replicate_succ, List.replicate_zero, Nat.reduceAdd, Nat.reduceSub]
        exact third a 0 _ (by omega) hf
      · exact absurd (nI_le (Nat.le_refl _) (by omega)) h
    | succ q ih =>
      intro a z ha hf
      unfold fl1 at hf
      refine zz_iload_n rfl dX6_firstFlaw_2 ?_
      refine zz_aload_n rfl dX6_firstFlaw_3 ?_
      refine zz_geti dX6_firstFlaw_4 fX6_21 rfl (ol_obj hO hl) ?_
      try dsimp only [zz_s1, zz_s2, zz_kill, zz_ent, zz_fl, List.set_cons_zero, List.set_cons_succ, List.getElem?_cons_zero, List.getElem?_cons_succ, Option.toList_some, Option.toList_none, List.cons_append, List.nil_append, List.append_nil, List.length_cons, List.length_nil, List.replicate_succ, List.replicate_zero, Nat.reduceAdd, Nat.reduceSub]
      rw [hc.2.1]
      refine zz_icmp_ge (tgt := 68) dX6_firstFlaw_7 (by decide) (fun h => ?_) (fun h => ?_)
      · exact absurd h (nI_ge (by omega) (by omega))
      · skip
        refine zz_iload_n rfl dX6_firstFlaw_10 ?_
        refine zz_iconst (v := 1) (by decide) dX6_firstFlaw_11 ?_
        refine zz_iadd dX6_firstFlaw_12 ?_
        refine zz_istore_n dX6_firstFlaw_13 (by decide) ?_
        try dsimp only [zz_s1, zz_s2, zz_kill, zz_ent, zz_fl, List.set_cons_zero, List.set_cons_succ, List.getElem?_cons_zero, List.getElem?_cons_succ, Option.toList_some, Option.toList_none, List.cons_append, List.nil_append, List.append_nil, List.length_cons, List.length_nil, List.replicate_succ, List.replicate_zero, Nat.reduceAdd, Nat.reduceSub]
        rw [nI_1]
        generalize hP : fl2 E rw a q (a + 1) = P at hf
        have inn : ∀ (w b : Nat), b + w = n → P = fl2 E rw a w b → zz_G mX6_firstFlaw (d + 1) 0 14 [some (.ref 16), some (.ref (LN l)), some (.int (nI a)), some (.int (nI b))] [] M I J Q := by
          intro w
          induction w with
          | zero =>
            intro b hb hf2
            have eb : b = n := by omega
            subst eb
            refine zz_iload_n rfl dX6_firstFlaw_14 ?_
            refine zz_aload_n rfl dX6_firstFlaw_15 ?_
            refine zz_geti dX6_firstFlaw_16 fX6_21 rfl (ol_obj hO hl) ?_
            try dsimp only [zz_s1, zz_s2, zz_kill, zz_ent, zz_fl, List.set_cons_zero, List.set_cons_succ, List.getElem?_cons_zero, List.getElem?_cons_succ, Option.toList_some, Option.toList_none, List.cons_append, List.nil_append, List.append_nil, List.length_cons, List.length_nil, List.replicate_succ, List.replicate_zero, Nat.reduceAdd, Nat.reduceSub]
            rw [hc.2.1]
            refine zz_icmp_ge (tgt := 62) dX6_firstFlaw_19 (by decide) (fun h2 => ?_) (fun h2 => ?_)
            · refine zz_iinc dX6_firstFlaw_62 rfl (congrArg (HAdd.hAdd _) (show Int32.ofInt 1 = 1 by decide)) (by decide) ?_
              refine zz_goto (tgt := 2) dX6_firstFlaw_65 (by decide) ?_
              try dsimp only [zz_s1, zz_s2, zz_kill, zz_ent, zz_fl, List.set_cons_zero, List.set_cons_succ, List.getElem?_cons_zero, List.getElem?_cons_succ, Option.toList_some, Option.toList_none, List.cons_append, List.nil_append, List.append_nil, List.length_cons, List.length_nil, List.replicate_succ, List.replicate_zero, Nat.reduceAdd, Nat.reduceSub]
              rw [nI_1]
              rw [hf2] at hf
              exact ih (a + 1) _ (by omega) hf
            · exact absurd (nI_le (Nat.le_refl _) (by omega)) h2
          | succ w ih2 =>
            intro b hb hf2
            unfold fl2 at hf2
            refine zz_iload_n rfl dX6_firstFlaw_14 ?_
            refine zz_aload_n rfl dX6_firstFlaw_15 ?_
            refine zz_geti dX6_firstFlaw_16 fX6_21 rfl (ol_obj hO hl) ?_
            try dsimp only [zz_s1, zz_s2, zz_kill, zz_ent, zz_fl, List.set_cons_zero, List.set_cons_succ, List.getElem?_cons_zero, List.getElem?_cons_succ, Option.toList_some, Option.toList_none, List.cons_append, List.nil_append, List.append_nil, List.length_cons, List.length_nil, List.replicate_succ, List.replicate_zero, Nat.reduceAdd, Nat.reduceSub]
            rw [hc.2.1]
            refine zz_icmp_ge (tgt := 62) dX6_firstFlaw_19 (by decide) (fun h2 => ?_) (fun h2 => ?_)
            · exact absurd h2 (nI_ge (by omega) (by omega))
            · skip
              refine zz_aload_n rfl dX6_firstFlaw_22 ?_
              refine zz_iload_n rfl dX6_firstFlaw_23 ?_
              refine zz_iload_n rfl dX6_firstFlaw_24 ?_
              try dsimp only [zz_s1, zz_s2, zz_kill, zz_ent, zz_fl, List.set_cons_zero, List.set_cons_succ, List.getElem?_cons_zero, List.getElem?_cons_succ, Option.toList_some, Option.toList_none, List.cons_append, List.nil_append, List.append_nil, List.length_cons, List.length_nil, List.replicate_succ, List.replicate_zero, Nat.reduceAdd, Nat.reduceSub]
              refine zz_cV2 dX6_firstFlaw_25 lX6_26 rfl (ol_obj hO hl) rfl rfl (Nat.le_of_ble_eq_true rfl) (Nat.le_of_ble_eq_true rfl) ?_
              refine sp_X3_mistakes d hO hl (vp_in_nI (show a < 24 by omega) (by decide)) (fun r hr => ?_)
              try dsimp only [zz_s1, zz_s2, zz_kill, zz_ent, zz_fl, List.set_cons_zero, List.set_cons_succ, List.getElem?_cons_zero, List.getElem?_cons_succ, Option.toList_some, Option.toList_none, List.cons_append, List.nil_append, List.append_nil, List.length_cons, List.length_nil, List.replicate_succ, List.replicate_zero, Nat.reduceAdd, Nat.reduceSub]
              have hr : bo r (E a b = true) := bo.iff hr (by rw [nI_clamp (by omega), bt1_iff _ (by omega), hc.2.2.2.1 a (by omega) b (by omega)])
              refine zz_if_ne (tgt := 56) dX6_firstFlaw_28 (by decide) (fun h3 => ?_) (fun h3 => ?_)
              · refine zz_iinc dX6_firstFlaw_56 rfl (congrArg (HAdd.hAdd _) (show Int32.ofInt 1 = 1 by decide)) (by decide) ?_
                refine zz_goto (tgt := 14) dX6_firstFlaw_59 (by decide) ?_
                try dsimp only [zz_s1, zz_s2, zz_kill, zz_ent, zz_fl, List.set_cons_zero, List.set_cons_succ, List.getElem?_cons_zero, List.getElem?_cons_succ, Option.toList_some, Option.toList_none, List.cons_append, List.nil_append, List.append_nil, List.length_cons, List.length_nil, List.replicate_succ, List.replicate_zero, Nat.reduceAdd, Nat.reduceSub]
                rw [nI_1]
                rw [if_neg (fun z => by rw [hr.t h3] at z; cases z.1)] at hf2
                exact ih2 (b + 1) (by omega) hf2
              · skip
                have hEf : E a b = false := by
                  cases hx : E a b with
                  | false => rfl
                  | true => exact absurd hx (hr.f h3)
                refine zz_aload_n rfl dX6_firstFlaw_31 ?_
                refine zz_getr dX6_firstFlaw_32 fX6_30 (fun _ _ _ _ => rfl) (ol_obj hO hl) (olr_num hO hl) ?_
                refine zz_iload_n rfl dX6_firstFlaw_35 ?_
                refine zz_aaldI dX6_firstFlaw_36 (ol_num hO hl) (vp_in_nI (show a < 25 by omega) (by decide)) (olr_row hO hl (lt25 a (by omega))) ?_
                refine zz_aload_n rfl dX6_firstFlaw_37 ?_
                refine zz_getr dX6_firstFlaw_38 fX6_30 (fun _ _ _ _ => rfl) (ol_obj hO hl) (olr_num hO hl) ?_
                refine zz_iload_n rfl dX6_firstFlaw_41 ?_
                refine zz_aaldI dX6_firstFlaw_42 (ol_num hO hl) (vp_in_nI (show b < 25 by omega) (by decide)) (olr_row hO hl (lt25 b (by omega))) ?_
                try dsimp only [zz_s1, zz_s2, zz_kill, zz_ent, zz_fl, List.set_cons_zero, List.set_cons_succ, List.getElem?_cons_zero, List.getElem?_cons_succ, Option.toList_some, Option.toList_none, List.cons_append, List.nil_append, List.append_nil, List.length_cons, List.length_nil, List.replicate_succ, List.replicate_zero, Nat.reduceAdd, Nat.reduceSub]
                refine zz_cS2 dX6_firstFlaw_43 lX6_34 rfl (Nat.le_of_ble_eq_true rfl) (Nat.le_of_ble_eq_true rfl) ?_
                refine sp_X6_product d (ol_row hO hl (lt25 a (by omega))) (ol_row hO hl (lt25 b (by omega))) (row6 a (by omega)) (row6 b (by omega)) ?_
                try dsimp only [zz_s1, zz_s2, zz_kill, zz_ent, zz_fl, List.set_cons_zero, List.set_cons_succ, List.getElem?_cons_zero, List.getElem?_cons_succ, Option.toList_some, Option.toList_none, List.cons_append, List.nil_append, List.append_nil, List.length_cons, List.length_nil, List.replicate_succ, List.replicate_zero, Nat.reduceAdd, Nat.reduceSub]
                refine zz_if_eq (tgt := 56) dX6_firstFlaw_46 (by decide) (fun h4 => ?_) (fun h4 => ?_)
                · refine zz_iinc dX6_firstFlaw_56 rfl (congrArg (HAdd.hAdd _) (show Int32.ofInt 1 = 1 by decide)) (by decide) ?_
                  refine zz_goto (tgt := 14) dX6_firstFlaw_59 (by decide) ?_
                  try dsimp only [zz_s1, zz_s2, zz_kill, zz_ent, zz_fl, List.set_cons_zero, List.set_cons_succ, List.getElem?_cons_zero, List.getElem?_cons_succ, Option.toList_some, Option.toList_none, List.cons_append, List.nil_append, List.append_nil, List.length_cons, List.length_nil, List.replicate_succ, List.replicate_zero, Nat.reduceAdd, Nat.reduceSub]
                  rw [nI_1]
                  rw [if_neg (fun z => z.2 h4)] at hf2
                  exact ih2 (b + 1) (by omega) hf2
                · skip
                  refine zz_bipush (v := 100) (by decide) dX6_firstFlaw_49 ?_
                  refine zz_iload_n rfl dX6_firstFlaw_51 ?_
                  refine zz_imul dX6_firstFlaw_52 ?_
                  refine zz_iload_n rfl dX6_firstFlaw_53 ?_
                  refine zz_iadd dX6_firstFlaw_54 ?_
                  refine zz_ireturn dX6_firstFlaw_55 rfl (by first | rfl | decide | assumption) ?_
                  rw [if_pos ⟨hEf, h4⟩] at hf2
                  rw [hf2] at hf
                  have hf : ff n E rw = nI (100 * a + b) := hf
                  rw [h100, ← hf]
                  exact hQ
        exact inn q (a + 1) (by omega) hP.symm
  exact outer n 0 none (by omega) rfl
theorem sp_X9_stands (d : Nat) (hO : OK M) {l : Int32} {n : Nat → Nat} {kd ag : Nat → Int32} {E : Nat → Nat → Nat → Bool} {sg : Nat → Nat → Int32} {rw : Nat → Nat → Nat → Int32} (hn : ∀ j, j < 8 → n j ≤ 24) (hC : ∀ j, j < 8 → CL I j (n j) (kd j) (ag j) (E j) (sg j) (rw j)) (h1 : ∀ j, j < 8 → l = nI j → Q (some (.int (ff (n j) (E j) (rw j)))) M I J) (h2 : ¬ vp_in l 8 → Q (some (.int (-2))) M I J) : zz_D mX9_stands (d + 2) [.ref 1, .int l] M I J Q := by
  refine zz_D_of rfl (Nat.le_of_ble_eq_true rfl) ?_
  try dsimp only [zz_s1, zz_s2, zz_kill, zz_ent, zz_fl, List.set_cons_zero, List.set_cons_succ, List.getElem?_cons_zero, List.getElem?_cons_succ, Option.toList_some, Option.toList_none, List.cons_append, List.nil_append, List.append_nil, List.length_cons, List.length_nil, List.replicate_succ, List.replicate_zero, Nat.reduceAdd, Nat.reduceSub]
  refine zz_aload_n rfl dX9_stands_0 ?_
  refine zz_iload_n rfl dX9_stands_1 ?_
  try dsimp only [zz_s1, zz_s2, zz_kill, zz_ent, zz_fl, List.set_cons_zero, List.set_cons_succ, List.getElem?_cons_zero, List.getElem?_cons_succ, Option.toList_some, Option.toList_none, List.cons_append, List.nil_append, List.append_nil, List.length_cons, List.length_nil, List.replicate_succ, List.replicate_zero, Nat.reduceAdd, Nat.reduceSub]
  refine zz_cV1 dX9_stands_2 lX9_100 rfl (os_1 hO) rfl rfl (Nat.le_of_ble_eq_true rfl) (Nat.le_of_ble_eq_true rfl) ?_
  refine sp_lineAt (d + 1) hO (fun j hj e => ?_) (fun hv => ?_)
  try dsimp only [zz_s1, zz_s2, zz_kill, zz_ent, zz_fl, List.set_cons_zero, List.set_cons_succ, List.getElem?_cons_zero, List.getElem?_cons_succ, Option.toList_some, Option.toList_none, List.cons_append, List.nil_append, List.append_nil, List.length_cons, List.length_nil, List.replicate_succ, List.replicate_zero, Nat.reduceAdd, Nat.reduceSub]
  · skip
    refine zz_astore_n dX9_stands_5 (by decide) ?_
    refine zz_aload_n rfl dX9_stands_6 ?_
    try dsimp only [zz_s1, zz_s2, zz_kill, zz_ent, zz_fl, List.set_cons_zero, List.set_cons_succ, List.getElem?_cons_zero, List.getElem?_cons_succ, Option.toList_some, Option.toList_none, List.cons_append, List.nil_append, List.append_nil, List.length_cons, List.length_nil, List.replicate_succ, List.replicate_zero, Nat.reduceAdd, Nat.reduceSub]
    refine zz_ifnonnull (tgt := 15) dX9_stands_7 (by decide) ?_
    refine zz_aload_n rfl dX9_stands_15 ?_
    refine zz_getr dX9_stands_16 fX9_50 (fun _ _ _ _ => rfl) (os_1 hO) (or_1_6 hO) ?_
    refine zz_aload_n rfl dX9_stands_19 ?_
    try dsimp only [zz_s1, zz_s2, zz_kill, zz_ent, zz_fl, List.set_cons_zero, List.set_cons_succ, List.getElem?_cons_zero, List.getElem?_cons_succ, Option.toList_some, Option.toList_none, List.cons_append, List.nil_append, List.append_nil, List.length_cons, List.length_nil, List.replicate_succ, List.replicate_zero, Nat.reduceAdd, Nat.reduceSub]
    refine zz_cV1 dX9_stands_20 lX9_223 rfl (os_16 hO) rfl rfl (Nat.le_of_ble_eq_true rfl) (Nat.le_of_ble_eq_true rfl) ?_
    refine sp_firstFlaw d hO hj (hn j hj) (hC j hj) ?_
    try dsimp only [zz_s1, zz_s2, zz_kill, zz_ent, zz_fl, List.set_cons_zero, List.set_cons_succ, List.getElem?_cons_zero, List.getElem?_cons_succ, Option.toList_some, Option.toList_none, List.cons_append, List.nil_append, List.append_nil, List.length_cons, List.length_nil, List.replicate_succ, List.replicate_zero, Nat.reduceAdd, Nat.reduceSub]
    refine zz_ireturn dX9_stands_23 rfl (by first | rfl | decide | assumption) ?_
    exact h1 j hj e
  · try dsimp only [zz_s1, zz_s2, zz_kill, zz_ent, zz_fl, List.set_cons_zero, List.set_cons_succ, List.getElem?_cons_zero, List.getElem?_cons_succ, Option.toList_some, Option.toList_none, List.cons_append, List.nil_append, List.append_nil, List.length_cons, List.length_nil, List.replicate_succ, List.replicate_zero, Nat.reduceAdd, Nat.reduceSub]
    refine zz_nstore_n dX9_stands_5 (by decide) ?_
    refine zz_nload_n rfl dX9_stands_6 ?_
    try dsimp only [zz_s1, zz_s2, zz_kill, zz_ent, zz_fl, List.set_cons_zero, List.set_cons_succ, List.getElem?_cons_zero, List.getElem?_cons_succ, Option.toList_some, Option.toList_none, List.cons_append, List.nil_append, List.append_nil, List.length_cons, List.length_nil, List.replicate_succ, List.replicate_zero, Nat.reduceAdd, Nat.reduceSub]
    refine zz_ifnonnullN dX9_stands_7 ?_
    try dsimp only [zz_s1, zz_s2, zz_kill, zz_ent, zz_fl, List.set_cons_zero, List.set_cons_succ, List.getElem?_cons_zero, List.getElem?_cons_succ, Option.toList_some, Option.toList_none, List.cons_append, List.nil_append, List.append_nil, List.length_cons, List.length_nil, List.replicate_succ, List.replicate_zero, Nat.reduceAdd, Nat.reduceSub]
    refine zz_bipush (v := (-2)) (by decide) dX9_stands_10 ?_
    refine zz_goto (tgt := 23) dX9_stands_12 (by decide) ?_
    refine zz_ireturn dX9_stands_23 rfl (by first | rfl | decide | assumption) ?_
    exact h2 hv
/-- the reference's stands, of a line that is there -/
theorem sp_stands (d : Nat) (hO : OK M) {l n : Nat} {kd ag : Int32} {E : Nat → Nat → Bool} {sg : Nat → Int32} {rw : Nat → Nat → Int32} (hl : l < 8) (hn : n ≤ 24) (hc : ML I l n kd ag E sg rw) (hQ : Q (some (.int (ff n E rw))) M I J) : zz_D mX10_stands (d + 2) [.ref 259, .int (nI l)] M I J Q := by
  have v1 : vp_in (nI l) 8 := vp_in_nI hl (by decide)
  have cl1 : (nI l).toNatClampNeg = l := nI_clamp (by omega)
  refine zz_D_of rfl (Nat.le_of_ble_eq_true rfl) ?_
  try dsimp only [zz_s1, zz_s2, zz_kill, zz_ent, zz_fl, List.set_cons_zero, List.set_cons_succ, List.getElem?_cons_zero, List.getElem?_cons_succ, Option.toList_some, Option.toList_none, List.cons_append, List.nil_append, List.append_nil, List.length_cons, List.length_nil, List.replicate_succ, List.replicate_zero, Nat.reduceAdd, Nat.reduceSub]
  refine zz_iload_n rfl dX10_stands_0 ?_
  try dsimp only [zz_s1, zz_s2, zz_kill, zz_ent, zz_fl, List.set_cons_zero, List.set_cons_succ, List.getElem?_cons_zero, List.getElem?_cons_succ, Option.toList_some, Option.toList_none, List.cons_append, List.nil_append, List.append_nil, List.length_cons, List.length_nil, List.replicate_succ, List.replicate_zero, Nat.reduceAdd, Nat.reduceSub]
  refine zz_cS1 dX10_stands_1 lX10_85 rfl (Nat.le_of_ble_eq_true rfl) (Nat.le_of_ble_eq_true rfl) ?_
  refine sp_isLine d (fun r0 hr0 => ?_)
  try dsimp only [zz_s1, zz_s2, zz_kill, zz_ent, zz_fl, List.set_cons_zero, List.set_cons_succ, List.getElem?_cons_zero, List.getElem?_cons_succ, Option.toList_some, Option.toList_none, List.cons_append, List.nil_append, List.append_nil, List.length_cons, List.length_nil, List.replicate_succ, List.replicate_zero, Nat.reduceAdd, Nat.reduceSub]
  refine zz_if_ne (tgt := 10) dX10_stands_4 (by decide) (fun q0 => ?_) (fun q0 => ?_)
  rotate_left
  · exact absurd v1 (hr0.f q0)
  refine zz_iconst (v := 0) (by decide) dX10_stands_10 ?_
  refine zz_istore_n dX10_stands_11 (by decide) ?_
  try dsimp only [zz_s1, zz_s2, zz_kill, zz_ent, zz_fl, List.set_cons_zero, List.set_cons_succ, List.getElem?_cons_zero, List.getElem?_cons_succ, Option.toList_some, Option.toList_none, List.cons_append, List.nil_append, List.append_nil, List.length_cons, List.length_nil, List.replicate_succ, List.replicate_zero, Nat.reduceAdd, Nat.reduceSub]
  have third : ∀ (q a : Nat) (z : Option Value), a + q = n → (ff n E rw = match fl3 rw q a with | some x => x | none => -1) → zz_G mX10_stands (d + 2) 0 77 [some (.ref 259), some (.int (nI l)), some (.int (nI a)), z] [] M I J Q := by
    intro q
    induction q with
    | zero =>
      intro a z ha hf
      have ea : a = n := by omega
      subst ea
      refine zz_iload_n rfl dX10_stands_77 ?_
      refine zz_aload_n rfl dX10_stands_78 ?_
      refine zz_getr dX10_stands_79 fX10_9 (fun _ _ _ _ => rfl) (os_259 hO) (or_259_0 hO) ?_
      refine zz_iload_n rfl dX10_stands_82 ?_
      refine zz_iald dX10_stands_83 (os_260 hO) v1 ?_
      try dsimp only [zz_s1, zz_s2, zz_kill, zz_ent, zz_fl, List.set_cons_zero, List.set_cons_succ, List.getElem?_cons_zero, List.getElem?_cons_succ, Option.toList_some, Option.toList_none, List.cons_append, List.nil_append, List.append_nil, List.length_cons, List.length_nil, List.replicate_succ, List.replicate_zero, Nat.reduceAdd, Nat.reduceSub]
      rw [cl1, hc.2.1]
      refine zz_icmp_ge (tgt := 109) dX10_stands_84 (by decide) (fun h => ?_) (fun h => ?_)
      · refine zz_iconst (v := (-1)) (by decide) dX10_stands_109 ?_
        refine zz_ireturn dX10_stands_110 rfl (by first | rfl | decide | assumption) ?_
        rw [hf] at hQ
        exact hQ
      · exact absurd (nI_le (Nat.le_refl _) (by omega)) h
    | succ q ih =>
      intro a z ha hf
      unfold fl3 at hf
      refine zz_iload_n rfl dX10_stands_77 ?_
      refine zz_aload_n rfl dX10_stands_78 ?_
      refine zz_getr dX10_stands_79 fX10_9 (fun _ _ _ _ => rfl) (os_259 hO) (or_259_0 hO) ?_
      refine zz_iload_n rfl dX10_stands_82 ?_
      refine zz_iald dX10_stands_83 (os_260 hO) v1 ?_
      try dsimp only [zz_s1, zz_s2, zz_kill, zz_ent, zz_fl, List.set_cons_zero, List.set_cons_succ, List.getElem?_cons_zero, List.getElem?_cons_succ, Option.toList_some, Option.toList_none, List.cons_append, List.nil_append, List.append_nil, List.length_cons, List.length_nil, List.replicate_succ, List.replicate_zero, Nat.reduceAdd, Nat.reduceSub]
      rw [cl1, hc.2.1]
      refine zz_icmp_ge (tgt := 109) dX10_stands_84 (by decide) (fun h => ?_) (fun h => ?_)
      · exact absurd h (nI_ge (by omega) (by omega))
      · skip
        refine zz_aload_n rfl dX10_stands_87 ?_
        refine zz_iload_n rfl dX10_stands_88 ?_
        refine zz_iload_n rfl dX10_stands_89 ?_
        refine zz_iconst (v := (-1)) (by decide) dX10_stands_90 ?_
        try dsimp only [zz_s1, zz_s2, zz_kill, zz_ent, zz_fl, List.set_cons_zero, List.set_cons_succ, List.getElem?_cons_zero, List.getElem?_cons_succ, Option.toList_some, Option.toList_none, List.cons_append, List.nil_append, List.append_nil, List.length_cons, List.length_nil, List.replicate_succ, List.replicate_zero, Nat.reduceAdd, Nat.reduceSub]
        refine zz_cV3 dX10_stands_91 lX10_212 rfl (os_259 hO) rfl rfl (Nat.le_of_ble_eq_true rfl) (Nat.le_of_ble_eq_true rfl) ?_
        refine sp_X10_product d hO hl hc (x := a) (z := 24) (by omega) (by decide) (Or.inr ⟨by omega, rfl⟩) (Or.inl ⟨rfl, rfl⟩) ?_
        try dsimp only [zz_s1, zz_s2, zz_kill, zz_ent, zz_fl, List.set_cons_zero, List.set_cons_succ, List.getElem?_cons_zero, List.getElem?_cons_succ, Option.toList_some, Option.toList_none, List.cons_append, List.nil_append, List.append_nil, List.length_cons, List.length_nil, List.replicate_succ, List.replicate_zero, Nat.reduceAdd, Nat.reduceSub]
        refine zz_if_ne (tgt := 103) dX10_stands_94 (by decide) (fun h2 => ?_) (fun h2 => ?_)
        · refine zz_iinc dX10_stands_103 rfl (congrArg (HAdd.hAdd _) (show Int32.ofInt 1 = 1 by decide)) (by decide) ?_
          refine zz_goto (tgt := 77) dX10_stands_106 (by decide) ?_
          try dsimp only [zz_s1, zz_s2, zz_kill, zz_ent, zz_fl, List.set_cons_zero, List.set_cons_succ, List.getElem?_cons_zero, List.getElem?_cons_succ, Option.toList_some, Option.toList_none, List.cons_append, List.nil_append, List.append_nil, List.length_cons, List.length_nil, List.replicate_succ, List.replicate_zero, Nat.reduceAdd, Nat.reduceSub]
          rw [nI_1]
          rw [if_neg h2] at hf
          exact ih (a + 1) _ (by omega) hf
        · skip
          refine zz_sipush (v := 10000) (by decide) dX10_stands_97 ?_
          refine zz_iload_n rfl dX10_stands_100 ?_
          refine zz_iadd dX10_stands_101 ?_
          refine zz_ireturn dX10_stands_102 rfl (by first | rfl | decide | assumption) ?_
          rw [if_pos h2] at hf
          have hf : ff n E rw = nI (10000 + a) := hf
          rw [h10k, ← hf]
          exact hQ
  have outer : ∀ (q a : Nat) (z : Option Value), a + q = n → (ff n E rw = match fl1 E rw q a with | some x => x | none => match fl3 rw n 0 with | some x => x | none => -1) → zz_G mX10_stands (d + 2) 0 12 [some (.ref 259), some (.int (nI l)), some (.int (nI a)), z] [] M I J Q := by
    intro q
    induction q with
    | zero =>
      intro a z ha hf
      have ea : a = n := by omega
      subst ea
      refine zz_iload_n rfl dX10_stands_12 ?_
      refine zz_aload_n rfl dX10_stands_13 ?_
      refine zz_getr dX10_stands_14 fX10_9 (fun _ _ _ _ => rfl) (os_259 hO) (or_259_0 hO) ?_
      refine zz_iload_n rfl dX10_stands_17 ?_
      refine zz_iald dX10_stands_18 (os_260 hO) v1 ?_
      try dsimp only [zz_s1, zz_s2, zz_kill, zz_ent, zz_fl, List.set_cons_zero, List.set_cons_succ, List.getElem?_cons_zero, List.getElem?_cons_succ, Option.toList_some, Option.toList_none, List.cons_append, List.nil_append, List.append_nil, List.length_cons, List.length_nil, List.replicate_succ, List.replicate_zero, Nat.reduceAdd, Nat.reduceSub]
      rw [cl1, hc.2.1]
      refine zz_icmp_ge (tgt := 75) dX10_stands_19 (by decide) (fun h => ?_) (fun h => ?_)
      · refine zz_iconst (v := 0) (by decide) dX10_stands_75 ?_
        refine zz_istore_n dX10_stands_76 (by decide) ?_
        try dsimp only [zz_s1, zz_s2, zz_kill, zz_ent, zz_fl, List.set_cons_zero, List.set_cons_succ, List.getElem?_cons_zero, List.getElem?_cons_succ, Option.toList_some, Option.toList_none, List.cons_append, List.nil_append, List.append_nil, List.length_cons, List.length_nil, List.replicate_succ, List.replicate_zero, Nat.reduceAdd, Nat.reduceSub]
        exact third a 0 _ (by omega) hf
      · exact absurd (nI_le (Nat.le_refl _) (by omega)) h
    | succ q ih =>
      intro a z ha hf
      unfold fl1 at hf
      refine zz_iload_n rfl dX10_stands_12 ?_
      refine zz_aload_n rfl dX10_stands_13 ?_
      refine zz_getr dX10_stands_14 fX10_9 (fun _ _ _ _ => rfl) (os_259 hO) (or_259_0 hO) ?_
      refine zz_iload_n rfl dX10_stands_17 ?_
      refine zz_iald dX10_stands_18 (os_260 hO) v1 ?_
      try dsimp only [zz_s1, zz_s2, zz_kill, zz_ent, zz_fl, List.set_cons_zero, List.set_cons_succ, List.getElem?_cons_zero, List.getElem?_cons_succ, Option.toList_some, Option.toList_none, List.cons_append, List.nil_append, List.append_nil, List.length_cons, List.length_nil, List.replicate_succ, List.replicate_zero, Nat.reduceAdd, Nat.reduceSub]
      rw [cl1, hc.2.1]
      refine zz_icmp_ge (tgt := 75) dX10_stands_19 (by decide) (fun h => ?_) (fun h => ?_)
      · exact absurd h (nI_ge (by omega) (by omega))
      · skip
        refine zz_iload_n rfl dX10_stands_22 ?_
        refine zz_iconst (v := 1) (by decide) dX10_stands_23 ?_
        refine zz_iadd dX10_stands_24 ?_
        refine zz_istore_n dX10_stands_25 (by decide) ?_
        try dsimp only [zz_s1, zz_s2, zz_kill, zz_ent, zz_fl, List.set_cons_zero, List.set_cons_succ, List.getElem?_cons_zero, List.getElem?_cons_succ, Option.toList_some, Option.toList_none, List.cons_append, List.nil_append, List.append_nil, List.length_cons, List.length_nil, List.replicate_succ, List.replicate_zero, Nat.reduceAdd, Nat.reduceSub]
        rw [nI_1]
        generalize hP : fl2 E rw a q (a + 1) = P at hf
        have inn : ∀ (w b : Nat), b + w = n → P = fl2 E rw a w b → zz_G mX10_stands (d + 2) 0 26 [some (.ref 259), some (.int (nI l)), some (.int (nI a)), some (.int (nI b))] [] M I J Q := by
          intro w
          induction w with
          | zero =>
            intro b hb hf2
            have eb : b = n := by omega
            subst eb
            refine zz_iload_n rfl dX10_stands_26 ?_
            refine zz_aload_n rfl dX10_stands_27 ?_
            refine zz_getr dX10_stands_28 fX10_9 (fun _ _ _ _ => rfl) (os_259 hO) (or_259_0 hO) ?_
            refine zz_iload_n rfl dX10_stands_31 ?_
            refine zz_iald dX10_stands_32 (os_260 hO) v1 ?_
            try dsimp only [zz_s1, zz_s2, zz_kill, zz_ent, zz_fl, List.set_cons_zero, List.set_cons_succ, List.getElem?_cons_zero, List.getElem?_cons_succ, Option.toList_some, Option.toList_none, List.cons_append, List.nil_append, List.append_nil, List.length_cons, List.length_nil, List.replicate_succ, List.replicate_zero, Nat.reduceAdd, Nat.reduceSub]
            rw [cl1, hc.2.1]
            refine zz_icmp_ge (tgt := 69) dX10_stands_33 (by decide) (fun h2 => ?_) (fun h2 => ?_)
            · refine zz_iinc dX10_stands_69 rfl (congrArg (HAdd.hAdd _) (show Int32.ofInt 1 = 1 by decide)) (by decide) ?_
              refine zz_goto (tgt := 12) dX10_stands_72 (by decide) ?_
              try dsimp only [zz_s1, zz_s2, zz_kill, zz_ent, zz_fl, List.set_cons_zero, List.set_cons_succ, List.getElem?_cons_zero, List.getElem?_cons_succ, Option.toList_some, Option.toList_none, List.cons_append, List.nil_append, List.append_nil, List.length_cons, List.length_nil, List.replicate_succ, List.replicate_zero, Nat.reduceAdd, Nat.reduceSub]
              rw [nI_1]
              rw [hf2] at hf
              exact ih (a + 1) _ (by omega) hf
            · exact absurd (nI_le (Nat.le_refl _) (by omega)) h2
          | succ w ih2 =>
            intro b hb hf2
            unfold fl2 at hf2
            refine zz_iload_n rfl dX10_stands_26 ?_
            refine zz_aload_n rfl dX10_stands_27 ?_
            refine zz_getr dX10_stands_28 fX10_9 (fun _ _ _ _ => rfl) (os_259 hO) (or_259_0 hO) ?_
            refine zz_iload_n rfl dX10_stands_31 ?_
            refine zz_iald dX10_stands_32 (os_260 hO) v1 ?_
            try dsimp only [zz_s1, zz_s2, zz_kill, zz_ent, zz_fl, List.set_cons_zero, List.set_cons_succ, List.getElem?_cons_zero, List.getElem?_cons_succ, Option.toList_some, Option.toList_none, List.cons_append, List.nil_append, List.append_nil, List.length_cons, List.length_nil, List.replicate_succ, List.replicate_zero, Nat.reduceAdd, Nat.reduceSub]
            rw [cl1, hc.2.1]
            refine zz_icmp_ge (tgt := 69) dX10_stands_33 (by decide) (fun h2 => ?_) (fun h2 => ?_)
            · exact absurd h2 (nI_ge (by omega) (by omega))
            · skip
              refine zz_aload_n rfl dX10_stands_36 ?_
              refine zz_iload_n rfl dX10_stands_37 ?_
              refine zz_iload_n rfl dX10_stands_38 ?_
              refine zz_iload_n rfl dX10_stands_39 ?_
              try dsimp only [zz_s1, zz_s2, zz_kill, zz_ent, zz_fl, List.set_cons_zero, List.set_cons_succ, List.getElem?_cons_zero, List.getElem?_cons_succ, Option.toList_some, Option.toList_none, List.cons_append, List.nil_append, List.append_nil, List.length_cons, List.length_nil, List.replicate_succ, List.replicate_zero, Nat.reduceAdd, Nat.reduceSub]
              refine zz_cV3 dX10_stands_40 lX10_109 rfl (os_259 hO) rfl rfl (Nat.le_of_ble_eq_true rfl) (Nat.le_of_ble_eq_true rfl) ?_
              refine sp_X10_areNear (d + 1) hO hl (show a < 24 by omega) (show b < 24 by omega) hc.2.2.2.1 (fun r hr => ?_)
              try dsimp only [zz_s1, zz_s2, zz_kill, zz_ent, zz_fl, List.set_cons_zero, List.set_cons_succ, List.getElem?_cons_zero, List.getElem?_cons_succ, Option.toList_some, Option.toList_none, List.cons_append, List.nil_append, List.append_nil, List.length_cons, List.length_nil, List.replicate_succ, List.replicate_zero, Nat.reduceAdd, Nat.reduceSub]
              refine zz_if_ne (tgt := 63) dX10_stands_43 (by decide) (fun h3 => ?_) (fun h3 => ?_)
              · refine zz_iinc dX10_stands_63 rfl (congrArg (HAdd.hAdd _) (show Int32.ofInt 1 = 1 by decide)) (by decide) ?_
                refine zz_goto (tgt := 26) dX10_stands_66 (by decide) ?_
                try dsimp only [zz_s1, zz_s2, zz_kill, zz_ent, zz_fl, List.set_cons_zero, List.set_cons_succ, List.getElem?_cons_zero, List.getElem?_cons_succ, Option.toList_some, Option.toList_none, List.cons_append, List.nil_append, List.append_nil, List.length_cons, List.length_nil, List.replicate_succ, List.replicate_zero, Nat.reduceAdd, Nat.reduceSub]
                rw [nI_1]
                rw [if_neg (fun z => by rw [hr.t h3] at z; cases z.1)] at hf2
                exact ih2 (b + 1) (by omega) hf2
              · skip
                have hEf : E a b = false := by
                  cases hx : E a b with
                  | false => rfl
                  | true => exact absurd hx (hr.f h3)
                refine zz_aload_n rfl dX10_stands_46 ?_
                refine zz_iload_n rfl dX10_stands_47 ?_
                refine zz_iload_n rfl dX10_stands_48 ?_
                refine zz_iload_n rfl dX10_stands_49 ?_
                try dsimp only [zz_s1, zz_s2, zz_kill, zz_ent, zz_fl, List.set_cons_zero, List.set_cons_succ, List.getElem?_cons_zero, List.getElem?_cons_succ, Option.toList_some, Option.toList_none, List.cons_append, List.nil_append, List.append_nil, List.length_cons, List.length_nil, List.replicate_succ, List.replicate_zero, Nat.reduceAdd, Nat.reduceSub]
                refine zz_cV3 dX10_stands_50 lX10_212 rfl (os_259 hO) rfl rfl (Nat.le_of_ble_eq_true rfl) (Nat.le_of_ble_eq_true rfl) ?_
                refine sp_X10_product d hO hl hc (x := a) (z := b) (by omega) (by omega) (Or.inr ⟨by omega, rfl⟩) (Or.inr ⟨by omega, rfl⟩) ?_
                try dsimp only [zz_s1, zz_s2, zz_kill, zz_ent, zz_fl, List.set_cons_zero, List.set_cons_succ, List.getElem?_cons_zero, List.getElem?_cons_succ, Option.toList_some, Option.toList_none, List.cons_append, List.nil_append, List.append_nil, List.length_cons, List.length_nil, List.replicate_succ, List.replicate_zero, Nat.reduceAdd, Nat.reduceSub]
                refine zz_if_eq (tgt := 63) dX10_stands_53 (by decide) (fun h4 => ?_) (fun h4 => ?_)
                · refine zz_iinc dX10_stands_63 rfl (congrArg (HAdd.hAdd _) (show Int32.ofInt 1 = 1 by decide)) (by decide) ?_
                  refine zz_goto (tgt := 26) dX10_stands_66 (by decide) ?_
                  try dsimp only [zz_s1, zz_s2, zz_kill, zz_ent, zz_fl, List.set_cons_zero, List.set_cons_succ, List.getElem?_cons_zero, List.getElem?_cons_succ, Option.toList_some, Option.toList_none, List.cons_append, List.nil_append, List.append_nil, List.length_cons, List.length_nil, List.replicate_succ, List.replicate_zero, Nat.reduceAdd, Nat.reduceSub]
                  rw [nI_1]
                  rw [if_neg (fun z => z.2 h4)] at hf2
                  exact ih2 (b + 1) (by omega) hf2
                · skip
                  refine zz_bipush (v := 100) (by decide) dX10_stands_56 ?_
                  refine zz_iload_n rfl dX10_stands_58 ?_
                  refine zz_imul dX10_stands_59 ?_
                  refine zz_iload_n rfl dX10_stands_60 ?_
                  refine zz_iadd dX10_stands_61 ?_
                  refine zz_ireturn dX10_stands_62 rfl (by first | rfl | decide | assumption) ?_
                  rw [if_pos ⟨hEf, h4⟩] at hf2
                  rw [hf2] at hf
                  have hf : ff n E rw = nI (100 * a + b) := hf
                  rw [h100, ← hf]
                  exact hQ
        exact inn q (a + 1) (by omega) hP.symm
  exact outer n 0 none (by omega) rfl
theorem sp_X10_stands (d : Nat) (hO : OK M) {l : Int32} {n : Nat → Nat} {kd ag : Nat → Int32} {E : Nat → Nat → Nat → Bool} {sg : Nat → Nat → Int32} {rw : Nat → Nat → Nat → Int32} (hn : ∀ j, j < 8 → n j ≤ 24) (hC : ∀ j, j < 8 → ML I j (n j) (kd j) (ag j) (E j) (sg j) (rw j)) (h1 : ∀ j, j < 8 → l = nI j → Q (some (.int (ff (n j) (E j) (rw j)))) M I J) (h2 : ¬ vp_in l 8 → Q (some (.int (-2))) M I J) : zz_D mX10_stands (d + 2) [.ref 259, .int l] M I J Q := by
  by_cases hv : vp_in l 8
  · obtain ⟨j, hj, rfl⟩ := vp_in_of hv (by decide)
    exact sp_stands d hO hj (hn j hj) (hC j hj) (h1 j hj rfl)
  · skip
    refine zz_D_of rfl (Nat.le_of_ble_eq_true rfl) ?_
    try dsimp only [zz_s1, zz_s2, zz_kill, zz_ent, zz_fl, List.set_cons_zero, List.set_cons_succ, List.getElem?_cons_zero, List.getElem?_cons_succ, Option.toList_some, Option.toList_none, List.cons_append, List.nil_append, List.append_nil, List.length_cons, List.length_nil, List.replicate_succ, List.replicate_zero, Nat.reduceAdd, Nat.reduceSub]
    refine zz_iload_n rfl dX10_stands_0 ?_
    try dsimp only [zz_s1, zz_s2, zz_kill, zz_ent, zz_fl, List.set_cons_zero, List.set_cons_succ, List.getElem?_cons_zero, List.getElem?_cons_succ, Option.toList_some, Option.toList_none, List.cons_append, List.nil_append, List.append_nil, List.length_cons, List.length_nil, List.replicate_succ, List.replicate_zero, Nat.reduceAdd, Nat.reduceSub]
    refine zz_cS1 dX10_stands_1 lX10_85 rfl (Nat.le_of_ble_eq_true rfl) (Nat.le_of_ble_eq_true rfl) ?_
    refine sp_isLine d (fun r0 hr0 => ?_)
    try dsimp only [zz_s1, zz_s2, zz_kill, zz_ent, zz_fl, List.set_cons_zero, List.set_cons_succ, List.getElem?_cons_zero, List.getElem?_cons_succ, Option.toList_some, Option.toList_none, List.cons_append, List.nil_append, List.append_nil, List.length_cons, List.length_nil, List.replicate_succ, List.replicate_zero, Nat.reduceAdd, Nat.reduceSub]
    refine zz_if_ne (tgt := 10) dX10_stands_4 (by decide) (fun q0 => ?_) (fun q0 => ?_)
    · exact absurd (hr0.t q0) hv
    · skip
      refine zz_bipush (v := (-2)) (by decide) dX10_stands_7 ?_
      refine zz_ireturn dX10_stands_9 rfl (by first | rfl | decide | assumption) ?_
      exact h2 hv
end PStands

