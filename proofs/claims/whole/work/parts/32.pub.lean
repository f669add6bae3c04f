/-! ===== the small calls, of the class and of the reference ===== -/
section PPub
variable {M : zz_M} {I : zz_I} {J : zz_J} {Q : zz_Q}
theorem sp_X9_sent (d : Nat) (hO : OK M) (hQ : Q (some (.int (I 1 12))) M I J) : zz_D mX9_sent d [.ref 1] M I J Q := by
  refine zz_D_of rfl (Nat.le_of_ble_eq_true rfl) ?_
  try dsimp only [zz_s1, zz_s2, zz_kill, zz_ent, zz_fl, List.set_cons_zero, List.set_cons_succ, List.getElem?_cons_zero, List.getElem?_cons_succ, Option.toList_some, Option.toList_none, List.cons_append, List.nil_append, List.append_nil, List.length_cons, List.length_nil, List.replicate_succ, List.replicate_zero, Nat.reduceAdd, Nat.reduceSub]
  refine zz_aload_n rfl dX9_sent_0 ?_
  refine zz_geti dX9_sent_1 fX9_82 rfl (os_1 hO) ?_
  refine zz_ireturn dX9_sent_4 rfl (by first | rfl | decide | assumption) ?_
  exact hQ
theorem sp_X10_sent (d : Nat) (hO : OK M) (hQ : Q (some (.int (I 259 29))) M I J) : zz_D mX10_sent d [.ref 259] M I J Q := by
  refine zz_D_of rfl (Nat.le_of_ble_eq_true rfl) ?_
  try dsimp only [zz_s1, zz_s2, zz_kill, zz_ent, zz_fl, List.set_cons_zero, List.set_cons_succ, List.getElem?_cons_zero, List.getElem?_cons_succ, Option.toList_some, Option.toList_none, List.cons_append, List.nil_append, List.append_nil, List.length_cons, List.length_nil, List.replicate_succ, List.replicate_zero, Nat.reduceAdd, Nat.reduceSub]
  refine zz_aload_n rfl dX10_sent_0 ?_
  refine zz_geti dX10_sent_1 fX10_73 rfl (os_259 hO) ?_
  refine zz_ireturn dX10_sent_4 rfl (by first | rfl | decide | assumption) ?_
  exact hQ
theorem sp_X9_listed (d : Nat) (hO : OK M) (hQ : Q (some (.int (I 1 13))) M I J) : zz_D mX9_listed d [.ref 1] M I J Q := by
  refine zz_D_of rfl (Nat.le_of_ble_eq_true rfl) ?_
  try dsimp only [zz_s1, zz_s2, zz_kill, zz_ent, zz_fl, List.set_cons_zero, List.set_cons_succ, List.getElem?_cons_zero, List.getElem?_cons_succ, Option.toList_some, Option.toList_none, List.cons_append, List.nil_append, List.append_nil, List.length_cons, List.length_nil, List.replicate_succ, List.replicate_zero, Nat.reduceAdd, Nat.reduceSub]
  refine zz_aload_n rfl dX9_listed_0 ?_
  refine zz_geti dX9_listed_1 fX9_85 rfl (os_1 hO) ?_
  refine zz_ireturn dX9_listed_4 rfl (by first | rfl | decide | assumption) ?_
  exact hQ
theorem sp_X10_listed (d : Nat) (hO : OK M) (hQ : Q (some (.int (I 259 30))) M I J) : zz_D mX10_listed d [.ref 259] M I J Q := by
  refine zz_D_of rfl (Nat.le_of_ble_eq_true rfl) ?_
  try dsimp only [zz_s1, zz_s2, zz_kill, zz_ent, zz_fl, List.set_cons_zero, List.set_cons_succ, List.getElem?_cons_zero, List.getElem?_cons_succ, Option.toList_some, Option.toList_none, List.cons_append, List.nil_append, List.append_nil, List.length_cons, List.length_nil, List.replicate_succ, List.replicate_zero, Nat.reduceAdd, Nat.reduceSub]
  refine zz_aload_n rfl dX10_listed_0 ?_
  refine zz_geti dX10_listed_1 fX10_76 rfl (os_259 hO) ?_
  refine zz_ireturn dX10_listed_4 rfl (by first | rfl | decide | assumption) ?_
  exact hQ
theorem sp_X9_fault (d : Nat) (hO : OK M) {w : Int32} (hQ : Q (some (.int (if w = 0 then I 4 2 else if w = 1 then I 4 3 else -1))) M I J) : zz_D mX9_fault d [.ref 1, .int w] M I J Q := by
  refine zz_D_of rfl (Nat.le_of_ble_eq_true rfl) ?_
  try dsimp only [zz_s1, zz_s2, zz_kill, zz_ent, zz_fl, List.set_cons_zero, List.set_cons_succ, List.getElem?_cons_zero, List.getElem?_cons_succ, Option.toList_some, Option.toList_none, List.cons_append, List.nil_append, List.append_nil, List.length_cons, List.length_nil, List.replicate_succ, List.replicate_zero, Nat.reduceAdd, Nat.reduceSub]
  refine zz_iload_n rfl dX9_fault_0 ?_
  try dsimp only [zz_s1, zz_s2, zz_kill, zz_ent, zz_fl, List.set_cons_zero, List.set_cons_succ, List.getElem?_cons_zero, List.getElem?_cons_succ, Option.toList_some, Option.toList_none, List.cons_append, List.nil_append, List.append_nil, List.length_cons, List.length_nil, List.replicate_succ, List.replicate_zero, Nat.reduceAdd, Nat.reduceSub]
  refine zz_if_ne (tgt := 12) dX9_fault_1 (by decide) (fun h => ?_) (fun h => ?_)
  · refine zz_iload_n rfl dX9_fault_12 ?_
    refine zz_iconst (v := 1) (by decide) dX9_fault_13 ?_
    try dsimp only [zz_s1, zz_s2, zz_kill, zz_ent, zz_fl, List.set_cons_zero, List.set_cons_succ, List.getElem?_cons_zero, List.getElem?_cons_succ, Option.toList_some, Option.toList_none, List.cons_append, List.nil_append, List.append_nil, List.length_cons, List.length_nil, List.replicate_succ, List.replicate_zero, Nat.reduceAdd, Nat.reduceSub]
    refine zz_icmp_ne (tgt := 27) dX9_fault_14 (by decide) (fun h2 => ?_) (fun h2 => ?_)
    · refine zz_iconst (v := (-1)) (by decide) dX9_fault_27 ?_
      refine zz_ireturn dX9_fault_28 rfl (by first | rfl | decide | assumption) ?_
      rw [if_neg h, if_neg h2] at hQ; exact hQ
    · skip
      refine zz_aload_n rfl dX9_fault_17 ?_
      refine zz_getr dX9_fault_18 fX9_19 (fun _ _ _ _ => rfl) (os_1 hO) (or_1_1 hO) ?_
      refine zz_geti dX9_fault_21 fX9_145 rfl (os_4 hO) ?_
      refine zz_goto (tgt := 28) dX9_fault_24 (by decide) ?_
      refine zz_ireturn dX9_fault_28 rfl (by first | rfl | decide | assumption) ?_
      rw [if_neg h, if_pos h2] at hQ; exact hQ
  · skip
    refine zz_aload_n rfl dX9_fault_4 ?_
    refine zz_getr dX9_fault_5 fX9_19 (fun _ _ _ _ => rfl) (os_1 hO) (or_1_1 hO) ?_
    refine zz_geti dX9_fault_8 fX9_131 rfl (os_4 hO) ?_
    refine zz_ireturn dX9_fault_11 rfl (by first | rfl | decide | assumption) ?_
    rw [if_pos h] at hQ; exact hQ
theorem sp_X10_fault (d : Nat) (hO : OK M) {w : Int32} (hQ : Q (some (.int (if w = 0 then I 259 8 else if w = 1 then I 259 9 else -1))) M I J) : zz_D mX10_fault d [.ref 259, .int w] M I J Q := by
  refine zz_D_of rfl (Nat.le_of_ble_eq_true rfl) ?_
  try dsimp only [zz_s1, zz_s2, zz_kill, zz_ent, zz_fl, List.set_cons_zero, List.set_cons_succ, List.getElem?_cons_zero, List.getElem?_cons_succ, Option.toList_some, Option.toList_none, List.cons_append, List.nil_append, List.append_nil, List.length_cons, List.length_nil, List.replicate_succ, List.replicate_zero, Nat.reduceAdd, Nat.reduceSub]
  refine zz_iload_n rfl dX10_fault_0 ?_
  try dsimp only [zz_s1, zz_s2, zz_kill, zz_ent, zz_fl, List.set_cons_zero, List.set_cons_succ, List.getElem?_cons_zero, List.getElem?_cons_succ, Option.toList_some, Option.toList_none, List.cons_append, List.nil_append, List.append_nil, List.length_cons, List.length_nil, List.replicate_succ, List.replicate_zero, Nat.reduceAdd, Nat.reduceSub]
  refine zz_if_ne (tgt := 11) dX10_fault_1 (by decide) (fun h => ?_) (fun h => ?_)
  · refine zz_iload_n rfl dX10_fault_11 ?_
    refine zz_iconst (v := 1) (by decide) dX10_fault_12 ?_
    try dsimp only [zz_s1, zz_s2, zz_kill, zz_ent, zz_fl, List.set_cons_zero, List.set_cons_succ, List.getElem?_cons_zero, List.getElem?_cons_succ, Option.toList_some, Option.toList_none, List.cons_append, List.nil_append, List.append_nil, List.length_cons, List.length_nil, List.replicate_succ, List.replicate_zero, Nat.reduceAdd, Nat.reduceSub]
    refine zz_icmp_ne (tgt := 23) dX10_fault_13 (by decide) (fun h2 => ?_) (fun h2 => ?_)
    · refine zz_iconst (v := (-1)) (by decide) dX10_fault_23 ?_
      refine zz_ireturn dX10_fault_24 rfl (by first | rfl | decide | assumption) ?_
      rw [if_neg h, if_neg h2] at hQ; exact hQ
    · skip
      refine zz_aload_n rfl dX10_fault_16 ?_
      refine zz_geti dX10_fault_17 fX10_32 rfl (os_259 hO) ?_
      refine zz_goto (tgt := 24) dX10_fault_20 (by decide) ?_
      refine zz_ireturn dX10_fault_24 rfl (by first | rfl | decide | assumption) ?_
      rw [if_neg h, if_pos h2] at hQ; exact hQ
  · skip
    refine zz_aload_n rfl dX10_fault_4 ?_
    refine zz_geti dX10_fault_5 fX10_118 rfl (os_259 hO) ?_
    refine zz_goto (tgt := 24) dX10_fault_8 (by decide) ?_
    refine zz_ireturn dX10_fault_24 rfl (by first | rfl | decide | assumption) ?_
    rw [if_pos h] at hQ; exact hQ
theorem sp_X10_count (d : Nat) (hO : OK M) {w : Int32} (hQ : Q (some (.int (if w = 0 then I 259 7 else if w = 1 then I 259 15 else if w = 2 then I 259 16 else if w = 3 then I 259 17 else -1))) M I J) : zz_D mX10_count d [.ref 259, .int w] M I J Q := by
  refine zz_D_of rfl (Nat.le_of_ble_eq_true rfl) ?_
  try dsimp only [zz_s1, zz_s2, zz_kill, zz_ent, zz_fl, List.set_cons_zero, List.set_cons_succ, List.getElem?_cons_zero, List.getElem?_cons_succ, Option.toList_some, Option.toList_none, List.cons_append, List.nil_append, List.append_nil, List.length_cons, List.length_nil, List.replicate_succ, List.replicate_zero, Nat.reduceAdd, Nat.reduceSub]
  refine zz_iload_n rfl dX10_count_0 ?_
  try dsimp only [zz_s1, zz_s2, zz_kill, zz_ent, zz_fl, List.set_cons_zero, List.set_cons_succ, List.getElem?_cons_zero, List.getElem?_cons_succ, Option.toList_some, Option.toList_none, List.cons_append, List.nil_append, List.append_nil, List.length_cons, List.length_nil, List.replicate_succ, List.replicate_zero, Nat.reduceAdd, Nat.reduceSub]
  refine zz_if_ne (tgt := 11) dX10_count_1 (by decide) (fun h => ?_) (fun h => ?_)
  · rw [if_neg h] at hQ
    refine zz_iload_n rfl dX10_count_11 ?_
    refine zz_iconst (v := 1) (by decide) dX10_count_12 ?_
    try dsimp only [zz_s1, zz_s2, zz_kill, zz_ent, zz_fl, List.set_cons_zero, List.set_cons_succ, List.getElem?_cons_zero, List.getElem?_cons_succ, Option.toList_some, Option.toList_none, List.cons_append, List.nil_append, List.append_nil, List.length_cons, List.length_nil, List.replicate_succ, List.replicate_zero, Nat.reduceAdd, Nat.reduceSub]
    refine zz_icmp_ne (tgt := 23) dX10_count_13 (by decide) (fun h2 => ?_) (fun h2 => ?_)
    · rw [if_neg h2] at hQ
      refine zz_iload_n rfl dX10_count_23 ?_
      refine zz_iconst (v := 2) (by decide) dX10_count_24 ?_
      try dsimp only [zz_s1, zz_s2, zz_kill, zz_ent, zz_fl, List.set_cons_zero, List.set_cons_succ, List.getElem?_cons_zero, List.getElem?_cons_succ, Option.toList_some, Option.toList_none, List.cons_append, List.nil_append, List.append_nil, List.length_cons, List.length_nil, List.replicate_succ, List.replicate_zero, Nat.reduceAdd, Nat.reduceSub]
      refine zz_icmp_ne (tgt := 35) dX10_count_25 (by decide) (fun h3 => ?_) (fun h3 => ?_)
      · rw [if_neg h3] at hQ
        refine zz_iload_n rfl dX10_count_35 ?_
        refine zz_iconst (v := 3) (by decide) dX10_count_36 ?_
        try dsimp only [zz_s1, zz_s2, zz_kill, zz_ent, zz_fl, List.set_cons_zero, List.set_cons_succ, List.getElem?_cons_zero, List.getElem?_cons_succ, Option.toList_some, Option.toList_none, List.cons_append, List.nil_append, List.append_nil, List.length_cons, List.length_nil, List.replicate_succ, List.replicate_zero, Nat.reduceAdd, Nat.reduceSub]
        refine zz_icmp_ne (tgt := 47) dX10_count_37 (by decide) (fun h4 => ?_) (fun h4 => ?_)
        · rw [if_neg h4] at hQ
          refine zz_iconst (v := (-1)) (by decide) dX10_count_47 ?_
          refine zz_ireturn dX10_count_48 rfl (by first | rfl | decide | assumption) ?_
          exact hQ
        · skip
          refine zz_aload_n rfl dX10_count_40 ?_
          refine zz_geti dX10_count_41 fX10_55 rfl (os_259 hO) ?_
          refine zz_goto (tgt := 48) dX10_count_44 (by decide) ?_
          refine zz_ireturn dX10_count_48 rfl (by first | rfl | decide | assumption) ?_
          rw [if_pos h4] at hQ; exact hQ
      · skip
        refine zz_aload_n rfl dX10_count_28 ?_
        refine zz_geti dX10_count_29 fX10_52 rfl (os_259 hO) ?_
        refine zz_goto (tgt := 48) dX10_count_32 (by decide) ?_
        refine zz_ireturn dX10_count_48 rfl (by first | rfl | decide | assumption) ?_
        rw [if_pos h3] at hQ; exact hQ
    · skip
      refine zz_aload_n rfl dX10_count_16 ?_
      refine zz_geti dX10_count_17 fX10_49 rfl (os_259 hO) ?_
      refine zz_goto (tgt := 48) dX10_count_20 (by decide) ?_
      refine zz_ireturn dX10_count_48 rfl (by first | rfl | decide | assumption) ?_
      rw [if_pos h2] at hQ; exact hQ
  · skip
    refine zz_aload_n rfl dX10_count_4 ?_
    refine zz_geti dX10_count_5 fX10_93 rfl (os_259 hO) ?_
    refine zz_goto (tgt := 48) dX10_count_8 (by decide) ?_
    refine zz_ireturn dX10_count_48 rfl (by first | rfl | decide | assumption) ?_
    rw [if_pos h] at hQ; exact hQ
theorem sp_X9_count (d : Nat) (hO : OK M) {w : Int32} (hQ : Q (some (.int (if w = 0 then I 2 1 else if w = 1 then (if I 24 1 ≤ 0 then -1 else I 24 1) else if w = 2 then I 24 2 else if w = 3 then I 24 3 else -1))) M I J) : zz_D mX9_count d [.ref 1, .int w] M I J Q := by
  refine zz_D_of rfl (Nat.le_of_ble_eq_true rfl) ?_
  try dsimp only [zz_s1, zz_s2, zz_kill, zz_ent, zz_fl, List.set_cons_zero, List.set_cons_succ, List.getElem?_cons_zero, List.getElem?_cons_succ, Option.toList_some, Option.toList_none, List.cons_append, List.nil_append, List.append_nil, List.length_cons, List.length_nil, List.replicate_succ, List.replicate_zero, Nat.reduceAdd, Nat.reduceSub]
  refine zz_iload_n rfl dX9_count_0 ?_
  try dsimp only [zz_s1, zz_s2, zz_kill, zz_ent, zz_fl, List.set_cons_zero, List.set_cons_succ, List.getElem?_cons_zero, List.getElem?_cons_succ, Option.toList_some, Option.toList_none, List.cons_append, List.nil_append, List.append_nil, List.length_cons, List.length_nil, List.replicate_succ, List.replicate_zero, Nat.reduceAdd, Nat.reduceSub]
  have hw : w = 0 ∨ w = 1 ∨ w = 2 ∨ w = 3 ∨ (w.toInt < 0 ∨ 3 < w.toInt) := by
    by_cases g : w.toInt < 0 ∨ 3 < w.toInt
    · exact Or.inr (Or.inr (Or.inr (Or.inr g)))
    · have e : ∀ z : Int32, w.toInt = z.toInt → w = z := fun z h => Int32.toInt_inj.mp h
      have : w.toInt = 0 ∨ w.toInt = 1 ∨ w.toInt = 2 ∨ w.toInt = 3 := by omega
      rcases this with q | q | q | q
      · exact Or.inl (e 0 q)
      · exact Or.inr (Or.inl (e 1 q))
      · exact Or.inr (Or.inr (Or.inl (e 2 q)))
      · exact Or.inr (Or.inr (Or.inr (Or.inl (e 3 q))))
  rcases hw with rfl | rfl | rfl | rfl | hw
  · refine zz_tabIn (tgt := 32) dX9_count_1 (by decide) (by decide) (off := 31) (by decide) (by decide) ?_
    refine zz_aload_n rfl dX9_count_32 ?_
    refine zz_getr dX9_count_33 fX9_10 (fun _ _ _ _ => rfl) (os_1 hO) (or_1_0 hO) ?_
    refine zz_geti dX9_count_36 fX9_97 rfl (os_2 hO) ?_
    refine zz_ireturn dX9_count_39 rfl (by first | rfl | decide | assumption) ?_
    exact hQ
  · refine zz_tabIn (tgt := 40) dX9_count_1 (by decide) (by decide) (off := 39) (by decide) (by decide) ?_
    rw [if_neg (by decide), if_pos rfl] at hQ
    refine zz_aload_n rfl dX9_count_40 ?_
    refine zz_getr dX9_count_41 fX9_71 (fun _ _ _ _ => rfl) (os_1 hO) (or_1_9 hO) ?_
    refine zz_geti dX9_count_44 fX9_203 rfl (os_24 hO) ?_
    try dsimp only [zz_s1, zz_s2, zz_kill, zz_ent, zz_fl, List.set_cons_zero, List.set_cons_succ, List.getElem?_cons_zero, List.getElem?_cons_succ, Option.toList_some, Option.toList_none, List.cons_append, List.nil_append, List.append_nil, List.length_cons, List.length_nil, List.replicate_succ, List.replicate_zero, Nat.reduceAdd, Nat.reduceSub]
    refine zz_if_le (tgt := 60) dX9_count_47 (by decide) (fun h => ?_) (fun h => ?_)
    · refine zz_iconst (v := (-1)) (by decide) dX9_count_60 ?_
      refine zz_ireturn dX9_count_61 rfl (by first | rfl | decide | assumption) ?_
      rw [if_pos h] at hQ; exact hQ
    · skip
      refine zz_aload_n rfl dX9_count_50 ?_
      refine zz_getr dX9_count_51 fX9_71 (fun _ _ _ _ => rfl) (os_1 hO) (or_1_9 hO) ?_
      refine zz_geti dX9_count_54 fX9_203 rfl (os_24 hO) ?_
      refine zz_goto (tgt := 61) dX9_count_57 (by decide) ?_
      refine zz_ireturn dX9_count_61 rfl (by first | rfl | decide | assumption) ?_
      rw [if_neg h] at hQ; exact hQ
  · refine zz_tabIn (tgt := 62) dX9_count_1 (by decide) (by decide) (off := 61) (by decide) (by decide) ?_
    refine zz_aload_n rfl dX9_count_62 ?_
    refine zz_getr dX9_count_63 fX9_71 (fun _ _ _ _ => rfl) (os_1 hO) (or_1_9 hO) ?_
    refine zz_geti dX9_count_66 fX9_265 rfl (os_24 hO) ?_
    refine zz_ireturn dX9_count_69 rfl (by first | rfl | decide | assumption) ?_
    exact hQ
  · refine zz_tabIn (tgt := 70) dX9_count_1 (by decide) (by decide) (off := 69) (by decide) (by decide) ?_
    refine zz_aload_n rfl dX9_count_70 ?_
    refine zz_getr dX9_count_71 fX9_71 (fun _ _ _ _ => rfl) (os_1 hO) (or_1_9 hO) ?_
    refine zz_geti dX9_count_74 fX9_261 rfl (os_24 hO) ?_
    refine zz_ireturn dX9_count_77 rfl (by first | rfl | decide | assumption) ?_
    exact hQ
  · refine zz_tabOut (tgt := 78) dX9_count_1 hw (by decide) ?_
    have ne : ∀ z : Int32, 0 ≤ z.toInt → z.toInt ≤ 3 → w ≠ z := fun z h1 h2 e => by rw [e] at hw; omega
    rw [if_neg (ne 0 (by decide) (by decide)), if_neg (ne 1 (by decide) (by decide)), if_neg (ne 2 (by decide) (by decide)), if_neg (ne 3 (by decide) (by decide))] at hQ
    refine zz_iconst (v := (-1)) (by decide) dX9_count_78 ?_
    refine zz_ireturn dX9_count_79 rfl (by first | rfl | decide | assumption) ?_
    exact hQ
theorem sp_X9_word (d : Nat) (hO : OK M) {i : Int32} {k : Nat} (hk : I 24 1 = nI k) (hk2 : k ≤ 64) (h1 : ∀ j, j < k → i = nI j → Q (some (.int (I 25 j))) M I J) (h2 : ¬ vp_in i k → Q (some (.int (-1))) M I J) : zz_D mX9_word d [.ref 1, .int i] M I J Q := by
  refine zz_D_of rfl (Nat.le_of_ble_eq_true rfl) ?_
  try dsimp only [zz_s1, zz_s2, zz_kill, zz_ent, zz_fl, List.set_cons_zero, List.set_cons_succ, List.getElem?_cons_zero, List.getElem?_cons_succ, Option.toList_some, Option.toList_none, List.cons_append, List.nil_append, List.append_nil, List.length_cons, List.length_nil, List.replicate_succ, List.replicate_zero, Nat.reduceAdd, Nat.reduceSub]
  refine zz_iload_n rfl dX9_word_0 ?_
  try dsimp only [zz_s1, zz_s2, zz_kill, zz_ent, zz_fl, List.set_cons_zero, List.set_cons_succ, List.getElem?_cons_zero, List.getElem?_cons_succ, Option.toList_some, Option.toList_none, List.cons_append, List.nil_append, List.append_nil, List.length_cons, List.length_nil, List.replicate_succ, List.replicate_zero, Nat.reduceAdd, Nat.reduceSub]
  refine zz_if_lt (tgt := 15) dX9_word_1 (by decide) (fun h => ?_) (fun h => ?_)
  · refine zz_iconst (v := (-1)) (by decide) dX9_word_15 ?_
    refine zz_ireturn dX9_word_16 rfl (by first | rfl | decide | assumption) ?_
    exact h2 (fun q => q (Or.inl h))
  · skip
    refine zz_iload_n rfl dX9_word_4 ?_
    refine zz_aload_n rfl dX9_word_5 ?_
    refine zz_getr dX9_word_6 fX9_71 (fun _ _ _ _ => rfl) (os_1 hO) (or_1_9 hO) ?_
    refine zz_geti dX9_word_9 fX9_203 rfl (os_24 hO) ?_
    try dsimp only [zz_s1, zz_s2, zz_kill, zz_ent, zz_fl, List.set_cons_zero, List.set_cons_succ, List.getElem?_cons_zero, List.getElem?_cons_succ, Option.toList_some, Option.toList_none, List.cons_append, List.nil_append, List.append_nil, List.length_cons, List.length_nil, List.replicate_succ, List.replicate_zero, Nat.reduceAdd, Nat.reduceSub]
    rw [hk]
    refine zz_icmp_lt (tgt := 17) dX9_word_12 (by decide) (fun h3 => ?_) (fun h3 => ?_)
    · have hv : vp_in i k := vp_in_iff.mpr (by
        rw [Int32.lt_iff_toInt_lt] at h h3
        rw [nI_toInt (by omega)] at h3
        have e0 : (0 : Int32).toInt = 0 := rfl
        omega)
      obtain ⟨j, hj, rfl⟩ := vp_in_of hv (by omega)
      refine zz_aload_n rfl dX9_word_17 ?_
      refine zz_getr dX9_word_18 fX9_71 (fun _ _ _ _ => rfl) (os_1 hO) (or_1_9 hO) ?_
      refine zz_getr dX9_word_21 fX9_206 (fun _ _ _ _ => rfl) (os_24 hO) (or_24_0 hO) ?_
      refine zz_iload_n rfl dX9_word_24 ?_
      refine zz_iald dX9_word_25 (os_25 hO) (vp_in_nI (by omega) (by omega)) ?_
      refine zz_ireturn dX9_word_26 rfl (by first | rfl | decide | assumption) ?_
      rw [nI_clamp (by omega)]
      exact h1 j hj rfl
    · skip
      refine zz_iconst (v := (-1)) (by decide) dX9_word_15 ?_
      refine zz_ireturn dX9_word_16 rfl (by first | rfl | decide | assumption) ?_
      refine h2 (fun q => ?_)
      rw [vp_in_iff] at q
      rw [Int32.lt_iff_toInt_lt, nI_toInt (by omega)] at h3
      omega
theorem in_k {i : Int32} {k : Nat} (hk : k < 2 ^ 31) : ((0 : Int64) ≤ i.toInt64 ∧ i.toInt64 ≤ (nI k).toInt64 - 1) ↔ vp_in i k := by
  rw [vp_in_iff, Int64.le_iff_toInt_le, Int64.le_iff_toInt_le, i2l_int, nI_l hk]
  show (0 : Int) ≤ i.toInt ∧ _ ↔ _
  by_cases h0 : k = 0
  · subst h0
    have : (lN 0 - 1).toInt = -1 := by decide
    omega
  · rw [lN_pred (by omega), pk_lT (by omega)]
    omega
theorem in_m {i : Int32} : ((0 : Int64) ≤ i.toInt64 ∧ i.toInt64 ≤ (-1 : Int32).toInt64 - 1) ↔ vp_in i 0 := by
  rw [vp_in_iff, Int64.le_iff_toInt_le, Int64.le_iff_toInt_le, i2l_int]
  have : ((-1 : Int32).toInt64 - 1).toInt = -2 := by decide
  have e0 : (0 : Int64).toInt = 0 := rfl
  omega
theorem sp_X10_word (d : Nat) (hO : OK M) {i : Int32} {k : Nat} (hk : I 259 15 = nI k ∨ (I 259 15 = -1 ∧ k = 0)) (hk2 : k ≤ 64) (h1 : ∀ j, j < k → i = nI j → Q (some (.int (I 270 j))) M I J) (h2 : ¬ vp_in i k → Q (some (.int (-1))) M I J) : zz_D mX10_word (d + 1) [.ref 259, .int i] M I J Q := by
  refine zz_D_of rfl (Nat.le_of_ble_eq_true rfl) ?_
  try dsimp only [zz_s1, zz_s2, zz_kill, zz_ent, zz_fl, List.set_cons_zero, List.set_cons_succ, List.getElem?_cons_zero, List.getElem?_cons_succ, Option.toList_some, Option.toList_none, List.cons_append, List.nil_append, List.append_nil, List.length_cons, List.length_nil, List.replicate_succ, List.replicate_zero, Nat.reduceAdd, Nat.reduceSub]
  refine zz_iload_n rfl dX10_word_0 ?_
  refine zz_i2l dX10_word_1 ?_
  refine zz_lconst (v := 0) (by decide) dX10_word_2 ?_
  refine zz_aload_n rfl dX10_word_3 ?_
  refine zz_geti dX10_word_4 fX10_49 rfl (os_259 hO) ?_
  refine zz_i2l dX10_word_7 ?_
  refine zz_lconst (v := 1) (by decide) dX10_word_8 ?_
  refine zz_lsub dX10_word_9 ?_
  try dsimp only [zz_s1, zz_s2, zz_kill, zz_ent, zz_fl, List.set_cons_zero, List.set_cons_succ, List.getElem?_cons_zero, List.getElem?_cons_succ, Option.toList_some, Option.toList_none, List.cons_append, List.nil_append, List.append_nil, List.length_cons, List.length_nil, List.replicate_succ, List.replicate_zero, Nat.reduceAdd, Nat.reduceSub]
  refine zz_cS3 dX10_word_10 lX10_81 rfl (Nat.le_of_ble_eq_true rfl) (Nat.le_of_ble_eq_true rfl) ?_
  refine sp_in d (fun r hr => ?_)
  try dsimp only [zz_s1, zz_s2, zz_kill, zz_ent, zz_fl, List.set_cons_zero, List.set_cons_succ, List.getElem?_cons_zero, List.getElem?_cons_succ, Option.toList_some, Option.toList_none, List.cons_append, List.nil_append, List.append_nil, List.length_cons, List.length_nil, List.replicate_succ, List.replicate_zero, Nat.reduceAdd, Nat.reduceSub]
  have hr : bo r (vp_in i k) := by
    rcases hk with hk | ⟨hk, rfl⟩
    · rw [hk] at hr; exact hr.iff (in_k (by omega))
    · rw [hk] at hr; exact hr.iff in_m
  refine zz_if_eq (tgt := 25) dX10_word_13 (by decide) (fun h => ?_) (fun h => ?_)
  · refine zz_iconst (v := (-1)) (by decide) dX10_word_25 ?_
    refine zz_ireturn dX10_word_26 rfl (by first | rfl | decide | assumption) ?_
    exact h2 (hr.f h)
  · skip
    obtain ⟨j, hj, rfl⟩ := vp_in_of (hr.t h) (by omega)
    refine zz_aload_n rfl dX10_word_16 ?_
    refine zz_getr dX10_word_17 fX10_46 (fun _ _ _ _ => rfl) (os_259 hO) (or_259_14 hO) ?_
    refine zz_iload_n rfl dX10_word_20 ?_
    refine zz_iald dX10_word_21 (os_270 hO) (vp_in_nI (by omega) (by omega)) ?_
    refine zz_goto (tgt := 26) dX10_word_22 (by decide) ?_
    refine zz_ireturn dX10_word_26 rfl (by first | rfl | decide | assumption) ?_
    rw [nI_clamp (by omega)]
    exact h1 j hj rfl
theorem sp_X9_heap (d : Nat) (hO : OK M) {i : Int32} {k : Nat} (hk : I 1 11 = nI k) (hk2 : k ≤ 24) (h1 : ∀ j, j < k → i = nI j → Q (some (.int (I 26 j))) M I J) (h2 : ¬ vp_in i k → Q (some (.int (-1))) M I J) : zz_D mX9_heap d [.ref 1, .int i] M I J Q := by
  refine zz_D_of rfl (Nat.le_of_ble_eq_true rfl) ?_
  try dsimp only [zz_s1, zz_s2, zz_kill, zz_ent, zz_fl, List.set_cons_zero, List.set_cons_succ, List.getElem?_cons_zero, List.getElem?_cons_succ, Option.toList_some, Option.toList_none, List.cons_append, List.nil_append, List.append_nil, List.length_cons, List.length_nil, List.replicate_succ, List.replicate_zero, Nat.reduceAdd, Nat.reduceSub]
  refine zz_iload_n rfl dX9_heap_0 ?_
  try dsimp only [zz_s1, zz_s2, zz_kill, zz_ent, zz_fl, List.set_cons_zero, List.set_cons_succ, List.getElem?_cons_zero, List.getElem?_cons_succ, Option.toList_some, Option.toList_none, List.cons_append, List.nil_append, List.append_nil, List.length_cons, List.length_nil, List.replicate_succ, List.replicate_zero, Nat.reduceAdd, Nat.reduceSub]
  refine zz_if_lt (tgt := 12) dX9_heap_1 (by decide) (fun h => ?_) (fun h => ?_)
  · refine zz_iconst (v := (-1)) (by decide) dX9_heap_12 ?_
    refine zz_ireturn dX9_heap_13 rfl (by first | rfl | decide | assumption) ?_
    exact h2 (fun q => q (Or.inl h))
  · skip
    refine zz_iload_n rfl dX9_heap_4 ?_
    refine zz_aload_n rfl dX9_heap_5 ?_
    refine zz_geti dX9_heap_6 fX9_78 rfl (os_1 hO) ?_
    try dsimp only [zz_s1, zz_s2, zz_kill, zz_ent, zz_fl, List.set_cons_zero, List.set_cons_succ, List.getElem?_cons_zero, List.getElem?_cons_succ, Option.toList_some, Option.toList_none, List.cons_append, List.nil_append, List.append_nil, List.length_cons, List.length_nil, List.replicate_succ, List.replicate_zero, Nat.reduceAdd, Nat.reduceSub]
    rw [hk]
    refine zz_icmp_lt (tgt := 14) dX9_heap_9 (by decide) (fun h3 => ?_) (fun h3 => ?_)
    · have hv : vp_in i k := vp_in_iff.mpr (by
        rw [Int32.lt_iff_toInt_lt] at h h3
        rw [nI_toInt (by omega)] at h3
        have e0 : (0 : Int32).toInt = 0 := rfl
        omega)
      obtain ⟨j, hj, rfl⟩ := vp_in_of hv (by omega)
      refine zz_aload_n rfl dX9_heap_14 ?_
      refine zz_getr dX9_heap_15 fX9_75 (fun _ _ _ _ => rfl) (os_1 hO) (or_1_10 hO) ?_
      refine zz_iload_n rfl dX9_heap_18 ?_
      refine zz_iald dX9_heap_19 (os_26 hO) (vp_in_nI (by omega) (by omega)) ?_
      refine zz_ireturn dX9_heap_20 rfl (by first | rfl | decide | assumption) ?_
      rw [nI_clamp (by omega)]
      exact h1 j hj rfl
    · skip
      refine zz_iconst (v := (-1)) (by decide) dX9_heap_12 ?_
      refine zz_ireturn dX9_heap_13 rfl (by first | rfl | decide | assumption) ?_
      refine h2 (fun q => ?_)
      rw [vp_in_iff] at q
      rw [Int32.lt_iff_toInt_lt, nI_toInt (by omega)] at h3
      omega
theorem sp_X10_heap (d : Nat) (hO : OK M) {i : Int32} {k : Nat} (hk : I 259 21 = nI k) (hk2 : k ≤ 24) (h1 : ∀ j, j < k → i = nI j → Q (some (.int (I 273 j))) M I J) (h2 : ¬ vp_in i k → Q (some (.int (-1))) M I J) : zz_D mX10_heap (d + 1) [.ref 259, .int i] M I J Q := by
  refine zz_D_of rfl (Nat.le_of_ble_eq_true rfl) ?_
  try dsimp only [zz_s1, zz_s2, zz_kill, zz_ent, zz_fl, List.set_cons_zero, List.set_cons_succ, List.getElem?_cons_zero, List.getElem?_cons_succ, Option.toList_some, Option.toList_none, List.cons_append, List.nil_append, List.append_nil, List.length_cons, List.length_nil, List.replicate_succ, List.replicate_zero, Nat.reduceAdd, Nat.reduceSub]
  refine zz_iload_n rfl dX10_heap_0 ?_
  refine zz_i2l dX10_heap_1 ?_
  refine zz_lconst (v := 0) (by decide) dX10_heap_2 ?_
  refine zz_aload_n rfl dX10_heap_3 ?_
  refine zz_geti dX10_heap_4 fX10_200 rfl (os_259 hO) ?_
  refine zz_i2l dX10_heap_7 ?_
  refine zz_lconst (v := 1) (by decide) dX10_heap_8 ?_
  refine zz_lsub dX10_heap_9 ?_
  try dsimp only [zz_s1, zz_s2, zz_kill, zz_ent, zz_fl, List.set_cons_zero, List.set_cons_succ, List.getElem?_cons_zero, List.getElem?_cons_succ, Option.toList_some, Option.toList_none, List.cons_append, List.nil_append, List.append_nil, List.length_cons, List.length_nil, List.replicate_succ, List.replicate_zero, Nat.reduceAdd, Nat.reduceSub]
  refine zz_cS3 dX10_heap_10 lX10_81 rfl (Nat.le_of_ble_eq_true rfl) (Nat.le_of_ble_eq_true rfl) ?_
  refine sp_in d (fun r hr => ?_)
  try dsimp only [zz_s1, zz_s2, zz_kill, zz_ent, zz_fl, List.set_cons_zero, List.set_cons_succ, List.getElem?_cons_zero, List.getElem?_cons_succ, Option.toList_some, Option.toList_none, List.cons_append, List.nil_append, List.append_nil, List.length_cons, List.length_nil, List.replicate_succ, List.replicate_zero, Nat.reduceAdd, Nat.reduceSub]
  have hr : bo r (vp_in i k) := by rw [hk] at hr; exact hr.iff (in_k (by omega))
  refine zz_if_eq (tgt := 25) dX10_heap_13 (by decide) (fun h => ?_) (fun h => ?_)
  · refine zz_iconst (v := (-1)) (by decide) dX10_heap_25 ?_
    refine zz_ireturn dX10_heap_26 rfl (by first | rfl | decide | assumption) ?_
    exact h2 (hr.f h)
  · skip
    obtain ⟨j, hj, rfl⟩ := vp_in_of (hr.t h) (by omega)
    refine zz_aload_n rfl dX10_heap_16 ?_
    refine zz_getr dX10_heap_17 fX10_64 (fun _ _ _ _ => rfl) (os_259 hO) (or_259_22 hO) ?_
    refine zz_iload_n rfl dX10_heap_20 ?_
    refine zz_iald dX10_heap_21 (os_273 hO) (vp_in_nI (by omega) (by omega)) ?_
    refine zz_goto (tgt := 26) dX10_heap_22 (by decide) ?_
    refine zz_ireturn dX10_heap_26 rfl (by first | rfl | decide | assumption) ?_
    rw [nI_clamp (by omega)]
    exact h1 j hj rfl
theorem sp_X9_end (d : Nat) (hO : OK M) {i : Int32} {k : Nat} (hk : I 2 1 = nI k) (hk2 : k ≤ 600) (h1 : vp_in i (k + 1) → Q (some (.int i)) M (zz_ui I 2 1 i) J) (h2 : ¬ vp_in i (k + 1) → Q (some (.int (-1))) M I J) : zz_D mX9_end d [.ref 1, .int i] M I J Q := by
  refine zz_D_of rfl (Nat.le_of_ble_eq_true rfl) ?_
  try dsimp only [zz_s1, zz_s2, zz_kill, zz_ent, zz_fl, List.set_cons_zero, List.set_cons_succ, List.getElem?_cons_zero, List.getElem?_cons_succ, Option.toList_some, Option.toList_none, List.cons_append, List.nil_append, List.append_nil, List.length_cons, List.length_nil, List.replicate_succ, List.replicate_zero, Nat.reduceAdd, Nat.reduceSub]
  refine zz_iload_n rfl dX9_end_0 ?_
  try dsimp only [zz_s1, zz_s2, zz_kill, zz_ent, zz_fl, List.set_cons_zero, List.set_cons_succ, List.getElem?_cons_zero, List.getElem?_cons_succ, Option.toList_some, Option.toList_none, List.cons_append, List.nil_append, List.append_nil, List.length_cons, List.length_nil, List.replicate_succ, List.replicate_zero, Nat.reduceAdd, Nat.reduceSub]
  refine zz_if_lt (tgt := 15) dX9_end_1 (by decide) (fun h => ?_) (fun h => ?_)
  · refine zz_iconst (v := (-1)) (by decide) dX9_end_15 ?_
    refine zz_ireturn dX9_end_16 rfl (by first | rfl | decide | assumption) ?_
    exact h2 (fun q => q (Or.inl h))
  · skip
    refine zz_iload_n rfl dX9_end_4 ?_
    refine zz_aload_n rfl dX9_end_5 ?_
    refine zz_getr dX9_end_6 fX9_10 (fun _ _ _ _ => rfl) (os_1 hO) (or_1_0 hO) ?_
    refine zz_geti dX9_end_9 fX9_97 rfl (os_2 hO) ?_
    try dsimp only [zz_s1, zz_s2, zz_kill, zz_ent, zz_fl, List.set_cons_zero, List.set_cons_succ, List.getElem?_cons_zero, List.getElem?_cons_succ, Option.toList_some, Option.toList_none, List.cons_append, List.nil_append, List.append_nil, List.length_cons, List.length_nil, List.replicate_succ, List.replicate_zero, Nat.reduceAdd, Nat.reduceSub]
    rw [hk]
    refine zz_icmp_le (tgt := 17) dX9_end_12 (by decide) (fun h3 => ?_) (fun h3 => ?_)
    · have hv : vp_in i (k + 1) := vp_in_iff.mpr (by
        rw [Int32.lt_iff_toInt_lt] at h
        rw [Int32.le_iff_toInt_le, nI_toInt (by omega)] at h3
        have e0 : (0 : Int32).toInt = 0 := rfl
        omega)
      refine zz_aload_n rfl dX9_end_17 ?_
      refine zz_getr dX9_end_18 fX9_10 (fun _ _ _ _ => rfl) (os_1 hO) (or_1_0 hO) ?_
      refine zz_iload_n rfl dX9_end_21 ?_
      refine zz_puti dX9_end_22 fX9_97 rfl (fun q h => by cases h; rfl) (os_2 hO) ?_
      refine zz_iload_n rfl dX9_end_25 ?_
      refine zz_ireturn dX9_end_26 rfl (by first | rfl | decide | assumption) ?_
      exact h1 hv
    · skip
      refine zz_iconst (v := (-1)) (by decide) dX9_end_15 ?_
      refine zz_ireturn dX9_end_16 rfl (by first | rfl | decide | assumption) ?_
      refine h2 (fun q => ?_)
      rw [vp_in_iff] at q
      rw [Int32.le_iff_toInt_le, nI_toInt (by omega)] at h3
      omega
theorem sp_X10_end (d : Nat) (hO : OK M) {i : Int32} {k : Nat} (hk : I 259 7 = nI k) (hk2 : k ≤ 600) (h1 : vp_in i (k + 1) → Q (some (.int i)) M (zz_ui I 259 7 i) J) (h2 : ¬ vp_in i (k + 1) → Q (some (.int (-1))) M I J) : zz_D mX10_end (d + 1) [.ref 259, .int i] M I J Q := by
  refine zz_D_of rfl (Nat.le_of_ble_eq_true rfl) ?_
  try dsimp only [zz_s1, zz_s2, zz_kill, zz_ent, zz_fl, List.set_cons_zero, List.set_cons_succ, List.getElem?_cons_zero, List.getElem?_cons_succ, Option.toList_some, Option.toList_none, List.cons_append, List.nil_append, List.append_nil, List.length_cons, List.length_nil, List.replicate_succ, List.replicate_zero, Nat.reduceAdd, Nat.reduceSub]
  refine zz_iload_n rfl dX10_end_0 ?_
  refine zz_i2l dX10_end_1 ?_
  refine zz_lconst (v := 0) (by decide) dX10_end_2 ?_
  refine zz_aload_n rfl dX10_end_3 ?_
  refine zz_geti dX10_end_4 fX10_93 rfl (os_259 hO) ?_
  refine zz_i2l dX10_end_7 ?_
  try dsimp only [zz_s1, zz_s2, zz_kill, zz_ent, zz_fl, List.set_cons_zero, List.set_cons_succ, List.getElem?_cons_zero, List.getElem?_cons_succ, Option.toList_some, Option.toList_none, List.cons_append, List.nil_append, List.append_nil, List.length_cons, List.length_nil, List.replicate_succ, List.replicate_zero, Nat.reduceAdd, Nat.reduceSub]
  refine zz_cS3 dX10_end_8 lX10_81 rfl (Nat.le_of_ble_eq_true rfl) (Nat.le_of_ble_eq_true rfl) ?_
  refine sp_in d (fun r hr => ?_)
  try dsimp only [zz_s1, zz_s2, zz_kill, zz_ent, zz_fl, List.set_cons_zero, List.set_cons_succ, List.getElem?_cons_zero, List.getElem?_cons_succ, Option.toList_some, Option.toList_none, List.cons_append, List.nil_append, List.append_nil, List.length_cons, List.length_nil, List.replicate_succ, List.replicate_zero, Nat.reduceAdd, Nat.reduceSub]
  have hr : bo r (vp_in i (k + 1)) := hr.iff (by
    rw [vp_in_iff, Int64.le_iff_toInt_le, Int64.le_iff_toInt_le, i2l_int, i2l_int, hk, nI_toInt (by omega)]
    show (0 : Int) ≤ i.toInt ∧ _ ↔ _
    omega)
  refine zz_if_ne (tgt := 16) dX10_end_11 (by decide) (fun h => ?_) (fun h => ?_)
  · refine zz_aload_n rfl dX10_end_16 ?_
    refine zz_iload_n rfl dX10_end_17 ?_
    refine zz_puti dX10_end_18 fX10_93 rfl (fun q h => by cases h; rfl) (os_259 hO) ?_
    refine zz_iload_n rfl dX10_end_21 ?_
    refine zz_ireturn dX10_end_22 rfl (by first | rfl | decide | assumption) ?_
    exact h1 (hr.t h)
  · skip
    refine zz_iconst (v := (-1)) (by decide) dX10_end_14 ?_
    refine zz_ireturn dX10_end_15 rfl (by first | rfl | decide | assumption) ?_
    exact h2 (hr.f h)
end PPub

