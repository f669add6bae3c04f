/-! ===== Tape ===== -/
section PTape
variable {M : zz_M} {I : zz_I} {J : zz_J} {Q : zz_Q}
theorem sp_X7_empty (d : Nat) (hO : OK M) (hQ : Q none M (zz_ui I 2 1 0) J) : zz_D mX7_empty d [.ref 2] M I J Q := by
  refine zz_D_of rfl (Nat.le_of_ble_eq_true rfl) ?_
  try dsimp only [zz_s1, zz_s2, zz_kill, zz_ent, zz_fl, List.set_cons_zero, List.set_cons_succ, List.getElem?_cons_zero, List.getElem?_cons_succ, Option.toList_some, Option.toList_none, List.cons_append, List.nil_append, List.append_nil, List.length_cons, List.length_nil, List.replicate_succ, List.replicate_zero, Nat.reduceAdd, Nat.reduceSub]
  refine zz_aload_n rfl dX7_empty_0 ?_
  refine zz_iconst (v := 0) (by decide) dX7_empty_1 ?_
  refine zz_puti dX7_empty_2 fX7_13 rfl (fun q h => by cases h; rfl) (os_2 hO) ?_
  refine zz_return dX7_empty_5 rfl ?_
  exact hQ
theorem sp_X7_hasRoomFor (d : Nat) (hO : OK M) {m : Int32} (hQ : ∀ r : Int32, (r = 1 ∧ I 2 1 + m ≤ 600) ∨ (r = 0 ∧ ¬ I 2 1 + m ≤ 600) → Q (some (.int r)) M I J) : zz_D mX7_hasRoomFor d [.ref 2, .int m] M I J Q := by
  refine zz_D_of rfl (Nat.le_of_ble_eq_true rfl) ?_
  try dsimp only [zz_s1, zz_s2, zz_kill, zz_ent, zz_fl, List.set_cons_zero, List.set_cons_succ, List.getElem?_cons_zero, List.getElem?_cons_succ, Option.toList_some, Option.toList_none, List.cons_append, List.nil_append, List.append_nil, List.length_cons, List.length_nil, List.replicate_succ, List.replicate_zero, Nat.reduceAdd, Nat.reduceSub]
  refine zz_aload_n rfl dX7_hasRoomFor_0 ?_
  refine zz_geti dX7_hasRoomFor_1 fX7_13 rfl (os_2 hO) ?_
  refine zz_iload_n rfl dX7_hasRoomFor_4 ?_
  refine zz_iadd dX7_hasRoomFor_5 ?_
  refine zz_sipush (v := 600) (by decide) dX7_hasRoomFor_6 ?_
  try dsimp only [zz_s1, zz_s2, zz_kill, zz_ent, zz_fl, List.set_cons_zero, List.set_cons_succ, List.getElem?_cons_zero, List.getElem?_cons_succ, Option.toList_some, Option.toList_none, List.cons_append, List.nil_append, List.append_nil, List.length_cons, List.length_nil, List.replicate_succ, List.replicate_zero, Nat.reduceAdd, Nat.reduceSub]
  refine zz_icmp_gt (tgt := 16) dX7_hasRoomFor_9 (by decide) (fun h => ?_) (fun h => ?_)
  · refine zz_iconst (v := 0) (by decide) dX7_hasRoomFor_16 ?_
    refine zz_ireturn dX7_hasRoomFor_17 rfl (by first | rfl | decide | assumption) ?_
    exact hQ 0 (Or.inr ⟨rfl, Int32.not_le.mpr h⟩)
  · skip
    refine zz_iconst (v := 1) (by decide) dX7_hasRoomFor_12 ?_
    refine zz_goto (tgt := 17) dX7_hasRoomFor_13 (by decide) ?_
    refine zz_ireturn dX7_hasRoomFor_17 rfl (by first | rfl | decide | assumption) ?_
    exact hQ 1 (Or.inl ⟨rfl, Int32.not_lt.mp h⟩)
end PTape

