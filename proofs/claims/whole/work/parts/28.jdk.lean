/-! ===== the JDK's methods, and lowest ===== -/
theorem us_nI {n k : Nat} {s : Int32} (hn : n < 2 ^ 32) (hs : ((s.toUInt32 &&& Int32.toUInt32 31).toBitVec % 32).toNat = k) : jv_ushr (nI n) s = nI (n / 2 ^ k) := pk_ushrN hn s k hs
theorem ls_lN {n k : Nat} (hn : n < 2 ^ 64) (hk : k < 64) : jv_lushr (lN n) (nI k) = lN (n / 2 ^ k) := wb_shr hn hk
theorem bt_nI (n i : Nat) : bt (nI n) i = (decide (i < 32) && n.testBit i) := by
  unfold bt
  show (BitVec.ofNat 32 n).getLsbD i = _
  rw [BitVec.getLsbD_ofNat]
section PJdk
variable {M : zz_M} {I : zz_I} {J : zz_J} {Q : zz_Q}
theorem sp_bitCountI (d : Nat) {x : Int32} (hQ : Q (some (.int (nI (fb_ct (bt x) 32)))) M I J) : zz_D mJ6_bitCount_0f7a4 d [.int x] M I J Q := by
  obtain ⟨n, hn, rfl⟩ := wb_of32 x
  have hA : pp_A 4 n ≤ n := Nat.sub_le _ _
  have hB : pp_B 4 n ≤ 2 * 858993459 := by
    have h1 : (pp_A 4 n &&& pp_3 4) ≤ pp_3 4 := Nat.and_le_right
    have h2 : ((pp_A 4 n / 4) &&& pp_3 4) ≤ pp_3 4 := Nat.and_le_right
    have h3 : pp_3 4 = 858993459 := by decide
    show (pp_A 4 n &&& pp_3 4) + ((pp_A 4 n / 4) &&& pp_3 4) ≤ _
    omega
  have hC : pp_C 4 n ≤ 252645135 := by
    have h1 : ((pp_B 4 n + pp_B 4 n / 16) &&& pp_f 4) ≤ pp_f 4 := Nat.and_le_right
    have h3 : pp_f 4 = 252645135 := by decide
    show ((pp_B 4 n + pp_B 4 n / 16) &&& pp_f 4) ≤ _
    omega
  refine zz_D_of rfl (Nat.le_of_ble_eq_true rfl) ?_
  try dsimp only [zz_s1, zz_s2, zz_kill, zz_ent, zz_fl, List.set_cons_zero, List.set_cons_succ, List.getElem?_cons_zero, List.getElem?_cons_succ, Option.toList_some, Option.toList_none, List.cons_append, List.nil_append, List.append_nil, List.length_cons, List.length_nil, List.replicate_succ, List.replicate_zero, Nat.reduceAdd, Nat.reduceSub]
  refine zz_iload_n rfl dJ6_bitCount_0f7a4_0 ?_
  refine zz_iload_n rfl dJ6_bitCount_0f7a4_1 ?_
  refine zz_iconst (v := 1) (by decide) dJ6_bitCount_0f7a4_2 ?_
  refine zz_iushr dJ6_bitCount_0f7a4_3 ?_
  refine zz_ldcw tJ6_265 dJ6_bitCount_0f7a4_4 ?_
  refine zz_iand dJ6_bitCount_0f7a4_7 ?_
  refine zz_isub dJ6_bitCount_0f7a4_8 ?_
  refine zz_istore_n dJ6_bitCount_0f7a4_9 (by decide) ?_
  try dsimp only [zz_s1, zz_s2, zz_kill, zz_ent, zz_fl, List.set_cons_zero, List.set_cons_succ, List.getElem?_cons_zero, List.getElem?_cons_succ, Option.toList_some, Option.toList_none, List.cons_append, List.nil_append, List.append_nil, List.length_cons, List.length_nil, List.replicate_succ, List.replicate_zero, Nat.reduceAdd, Nat.reduceSub]
  rw [show nI n - (jv_ushr (nI n) 1 &&& 1431655765) = nI (pp_A 4 n) from by
    rw [us_nI (k := 1) hn (by decide), show (1431655765 : Int32) = nI (pp_5 4) by decide, fa_and]
    exact pk_sub (Nat.le_trans Nat.and_le_left (by omega))]
  refine zz_iload_n rfl dJ6_bitCount_0f7a4_10 ?_
  refine zz_ldcw tJ6_266 dJ6_bitCount_0f7a4_11 ?_
  refine zz_iand dJ6_bitCount_0f7a4_14 ?_
  refine zz_iload_n rfl dJ6_bitCount_0f7a4_15 ?_
  refine zz_iconst (v := 2) (by decide) dJ6_bitCount_0f7a4_16 ?_
  refine zz_iushr dJ6_bitCount_0f7a4_17 ?_
  refine zz_ldcw tJ6_266 dJ6_bitCount_0f7a4_18 ?_
  refine zz_iand dJ6_bitCount_0f7a4_21 ?_
  refine zz_iadd dJ6_bitCount_0f7a4_22 ?_
  refine zz_istore_n dJ6_bitCount_0f7a4_23 (by decide) ?_
  try dsimp only [zz_s1, zz_s2, zz_kill, zz_ent, zz_fl, List.set_cons_zero, List.set_cons_succ, List.getElem?_cons_zero, List.getElem?_cons_succ, Option.toList_some, Option.toList_none, List.cons_append, List.nil_append, List.append_nil, List.length_cons, List.length_nil, List.replicate_succ, List.replicate_zero, Nat.reduceAdd, Nat.reduceSub]
  rw [show (nI (pp_A 4 n) &&& 858993459) + (jv_ushr (nI (pp_A 4 n)) 2 &&& 858993459) = nI (pp_B 4 n) from by
    rw [us_nI (k := 2) (by omega) (by decide), show (858993459 : Int32) = nI (pp_3 4) by decide, fa_and, fa_and, nI_add]
    rfl]
  refine zz_iload_n rfl dJ6_bitCount_0f7a4_24 ?_
  refine zz_iload_n rfl dJ6_bitCount_0f7a4_25 ?_
  refine zz_iconst (v := 4) (by decide) dJ6_bitCount_0f7a4_26 ?_
  refine zz_iushr dJ6_bitCount_0f7a4_27 ?_
  refine zz_iadd dJ6_bitCount_0f7a4_28 ?_
  refine zz_ldcw tJ6_267 dJ6_bitCount_0f7a4_29 ?_
  refine zz_iand dJ6_bitCount_0f7a4_32 ?_
  refine zz_istore_n dJ6_bitCount_0f7a4_33 (by decide) ?_
  try dsimp only [zz_s1, zz_s2, zz_kill, zz_ent, zz_fl, List.set_cons_zero, List.set_cons_succ, List.getElem?_cons_zero, List.getElem?_cons_succ, Option.toList_some, Option.toList_none, List.cons_append, List.nil_append, List.append_nil, List.length_cons, List.length_nil, List.replicate_succ, List.replicate_zero, Nat.reduceAdd, Nat.reduceSub]
  rw [show (nI (pp_B 4 n) + jv_ushr (nI (pp_B 4 n)) 4) &&& 252645135 = nI (pp_C 4 n) from by
    rw [us_nI (k := 4) (by omega) (by decide), show (252645135 : Int32) = nI (pp_f 4) by decide, nI_add, fa_and]
    rfl]
  refine zz_iload_n rfl dJ6_bitCount_0f7a4_34 ?_
  refine zz_iload_n rfl dJ6_bitCount_0f7a4_35 ?_
  refine zz_bipush (v := 8) (by decide) dJ6_bitCount_0f7a4_36 ?_
  refine zz_iushr dJ6_bitCount_0f7a4_38 ?_
  refine zz_iadd dJ6_bitCount_0f7a4_39 ?_
  refine zz_istore_n dJ6_bitCount_0f7a4_40 (by decide) ?_
  try dsimp only [zz_s1, zz_s2, zz_kill, zz_ent, zz_fl, List.set_cons_zero, List.set_cons_succ, List.getElem?_cons_zero, List.getElem?_cons_succ, Option.toList_some, Option.toList_none, List.cons_append, List.nil_append, List.append_nil, List.length_cons, List.length_nil, List.replicate_succ, List.replicate_zero, Nat.reduceAdd, Nat.reduceSub]
  rw [show nI (pp_C 4 n) + jv_ushr (nI (pp_C 4 n)) 8 = nI (pp_C 4 n + pp_C 4 n / 256) from by
    rw [us_nI (k := 8) (by omega) (by decide), nI_add]]
  refine zz_iload_n rfl dJ6_bitCount_0f7a4_41 ?_
  refine zz_iload_n rfl dJ6_bitCount_0f7a4_42 ?_
  refine zz_bipush (v := 16) (by decide) dJ6_bitCount_0f7a4_43 ?_
  refine zz_iushr dJ6_bitCount_0f7a4_45 ?_
  refine zz_iadd dJ6_bitCount_0f7a4_46 ?_
  refine zz_istore_n dJ6_bitCount_0f7a4_47 (by decide) ?_
  try dsimp only [zz_s1, zz_s2, zz_kill, zz_ent, zz_fl, List.set_cons_zero, List.set_cons_succ, List.getElem?_cons_zero, List.getElem?_cons_succ, Option.toList_some, Option.toList_none, List.cons_append, List.nil_append, List.append_nil, List.length_cons, List.length_nil, List.replicate_succ, List.replicate_zero, Nat.reduceAdd, Nat.reduceSub]
  rw [show nI (pp_C 4 n + pp_C 4 n / 256) + jv_ushr (nI (pp_C 4 n + pp_C 4 n / 256)) 16 = nI (pp_C 4 n + pp_C 4 n / 256 + (pp_C 4 n + pp_C 4 n / 256) / 65536) from by
    rw [us_nI (k := 16) (by omega) (by decide), nI_add]]
  refine zz_iload_n rfl dJ6_bitCount_0f7a4_48 ?_
  refine zz_bipush (v := 63) (by decide) dJ6_bitCount_0f7a4_49 ?_
  refine zz_iand dJ6_bitCount_0f7a4_51 ?_
  refine zz_ireturn dJ6_bitCount_0f7a4_52 rfl (by first | rfl | decide | assumption) ?_
  rw [show (63 : Int32) = nI (2 ^ 6 - 1) by decide, fa_mask, pp_32 n hn]
  rw [fb_ct_cong (q := fun i => n.testBit i) (fun i hi => by rw [bt_nI]; simp [hi])] at hQ
  exact hQ
theorem sp_bitCountJ (d : Nat) {x : Int64} (hQ : Q (some (.int (nI (fb_ct (bl x) 64)))) M I J) : zz_D mJ13_bitCount_95d88 d [.long x] M I J Q := by
  obtain ⟨n, hn, rfl⟩ := wb_of x
  have hA : pp_A 8 n ≤ n := Nat.sub_le _ _
  have hB : pp_B 8 n ≤ 2 * 3689348814741910323 := by
    have h1 : (pp_A 8 n &&& pp_3 8) ≤ pp_3 8 := Nat.and_le_right
    have h2 : ((pp_A 8 n / 4) &&& pp_3 8) ≤ pp_3 8 := Nat.and_le_right
    have h3 : pp_3 8 = 3689348814741910323 := by decide
    show (pp_A 8 n &&& pp_3 8) + ((pp_A 8 n / 4) &&& pp_3 8) ≤ _
    omega
  have hC : pp_C 8 n ≤ 1085102592571150095 := by
    have h1 : ((pp_B 8 n + pp_B 8 n / 16) &&& pp_f 8) ≤ pp_f 8 := Nat.and_le_right
    have h3 : pp_f 8 = 1085102592571150095 := by decide
    show ((pp_B 8 n + pp_B 8 n / 16) &&& pp_f 8) ≤ _
    omega
  refine zz_D_of rfl (Nat.le_of_ble_eq_true rfl) ?_
  try dsimp only [zz_s1, zz_s2, zz_kill, zz_ent, zz_fl, List.set_cons_zero, List.set_cons_succ, List.getElem?_cons_zero, List.getElem?_cons_succ, Option.toList_some, Option.toList_none, List.cons_append, List.nil_append, List.append_nil, List.length_cons, List.length_nil, List.replicate_succ, List.replicate_zero, Nat.reduceAdd, Nat.reduceSub]
  refine zz_lload_n rfl dJ13_bitCount_95d88_0 ?_
  refine zz_lload_n rfl dJ13_bitCount_95d88_1 ?_
  refine zz_iconst (v := 1) (by decide) dJ13_bitCount_95d88_2 ?_
  refine zz_lushr dJ13_bitCount_95d88_3 ?_
  refine zz_ldc2 tJ13_314 dJ13_bitCount_95d88_4 ?_
  refine zz_land dJ13_bitCount_95d88_7 ?_
  refine zz_lsub dJ13_bitCount_95d88_8 ?_
  refine zz_lstore_n dJ13_bitCount_95d88_9 (by decide) ?_
  try dsimp only [zz_s1, zz_s2, zz_kill, zz_ent, zz_fl, List.set_cons_zero, List.set_cons_succ, List.getElem?_cons_zero, List.getElem?_cons_succ, Option.toList_some, Option.toList_none, List.cons_append, List.nil_append, List.append_nil, List.length_cons, List.length_nil, List.replicate_succ, List.replicate_zero, Nat.reduceAdd, Nat.reduceSub]
  rw [show lN n - (jv_lushr (lN n) 1 &&& 6148914691236517205) = lN (pp_A 8 n) from by
    rw [show (1 : Int32) = nI 1 from rfl, ls_lN hn (by decide), show (6148914691236517205 : Int64) = lN (pp_5 8) by decide, fb_andL]
    exact lN_sub (Nat.le_trans Nat.and_le_left (by omega))]
  refine zz_lload_n rfl dJ13_bitCount_95d88_10 ?_
  refine zz_ldc2 tJ13_316 dJ13_bitCount_95d88_11 ?_
  refine zz_land dJ13_bitCount_95d88_14 ?_
  refine zz_lload_n rfl dJ13_bitCount_95d88_15 ?_
  refine zz_iconst (v := 2) (by decide) dJ13_bitCount_95d88_16 ?_
  refine zz_lushr dJ13_bitCount_95d88_17 ?_
  refine zz_ldc2 tJ13_316 dJ13_bitCount_95d88_18 ?_
  refine zz_land dJ13_bitCount_95d88_21 ?_
  refine zz_ladd dJ13_bitCount_95d88_22 ?_
  refine zz_lstore_n dJ13_bitCount_95d88_23 (by decide) ?_
  try dsimp only [zz_s1, zz_s2, zz_kill, zz_ent, zz_fl, List.set_cons_zero, List.set_cons_succ, List.getElem?_cons_zero, List.getElem?_cons_succ, Option.toList_some, Option.toList_none, List.cons_append, List.nil_append, List.append_nil, List.length_cons, List.length_nil, List.replicate_succ, List.replicate_zero, Nat.reduceAdd, Nat.reduceSub]
  rw [show (lN (pp_A 8 n) &&& 3689348814741910323) + (jv_lushr (lN (pp_A 8 n)) 2 &&& 3689348814741910323) = lN (pp_B 8 n) from by
    rw [show (2 : Int32) = nI 2 from rfl, ls_lN (by omega) (by decide), show (3689348814741910323 : Int64) = lN (pp_3 8) by decide, fb_andL, fb_andL, lN_add]
    rfl]
  refine zz_lload_n rfl dJ13_bitCount_95d88_24 ?_
  refine zz_lload_n rfl dJ13_bitCount_95d88_25 ?_
  refine zz_iconst (v := 4) (by decide) dJ13_bitCount_95d88_26 ?_
  refine zz_lushr dJ13_bitCount_95d88_27 ?_
  refine zz_ladd dJ13_bitCount_95d88_28 ?_
  refine zz_ldc2 tJ13_318 dJ13_bitCount_95d88_29 ?_
  refine zz_land dJ13_bitCount_95d88_32 ?_
  refine zz_lstore_n dJ13_bitCount_95d88_33 (by decide) ?_
  try dsimp only [zz_s1, zz_s2, zz_kill, zz_ent, zz_fl, List.set_cons_zero, List.set_cons_succ, List.getElem?_cons_zero, List.getElem?_cons_succ, Option.toList_some, Option.toList_none, List.cons_append, List.nil_append, List.append_nil, List.length_cons, List.length_nil, List.replicate_succ, List.replicate_zero, Nat.reduceAdd, Nat.reduceSub]
  rw [show (lN (pp_B 8 n) + jv_lushr (lN (pp_B 8 n)) 4) &&& 1085102592571150095 = lN (pp_C 8 n) from by
    rw [show (4 : Int32) = nI 4 from rfl, ls_lN (by omega) (by decide), show (1085102592571150095 : Int64) = lN (pp_f 8) by decide, lN_add, fb_andL]
    rfl]
  refine zz_lload_n rfl dJ13_bitCount_95d88_34 ?_
  refine zz_lload_n rfl dJ13_bitCount_95d88_35 ?_
  refine zz_bipush (v := 8) (by decide) dJ13_bitCount_95d88_36 ?_
  refine zz_lushr dJ13_bitCount_95d88_38 ?_
  refine zz_ladd dJ13_bitCount_95d88_39 ?_
  refine zz_lstore_n dJ13_bitCount_95d88_40 (by decide) ?_
  try dsimp only [zz_s1, zz_s2, zz_kill, zz_ent, zz_fl, List.set_cons_zero, List.set_cons_succ, List.getElem?_cons_zero, List.getElem?_cons_succ, Option.toList_some, Option.toList_none, List.cons_append, List.nil_append, List.append_nil, List.length_cons, List.length_nil, List.replicate_succ, List.replicate_zero, Nat.reduceAdd, Nat.reduceSub]
  rw [show lN (pp_C 8 n) + jv_lushr (lN (pp_C 8 n)) 8 = lN (pp_C 8 n + pp_C 8 n / 256) from by
    rw [show (8 : Int32) = nI 8 from rfl, ls_lN (by omega) (by decide), lN_add]]
  refine zz_lload_n rfl dJ13_bitCount_95d88_41 ?_
  refine zz_lload_n rfl dJ13_bitCount_95d88_42 ?_
  refine zz_bipush (v := 16) (by decide) dJ13_bitCount_95d88_43 ?_
  refine zz_lushr dJ13_bitCount_95d88_45 ?_
  refine zz_ladd dJ13_bitCount_95d88_46 ?_
  refine zz_lstore_n dJ13_bitCount_95d88_47 (by decide) ?_
  try dsimp only [zz_s1, zz_s2, zz_kill, zz_ent, zz_fl, List.set_cons_zero, List.set_cons_succ, List.getElem?_cons_zero, List.getElem?_cons_succ, Option.toList_some, Option.toList_none, List.cons_append, List.nil_append, List.append_nil, List.length_cons, List.length_nil, List.replicate_succ, List.replicate_zero, Nat.reduceAdd, Nat.reduceSub]
  rw [show lN (pp_C 8 n + pp_C 8 n / 256) + jv_lushr (lN (pp_C 8 n + pp_C 8 n / 256)) 16 = lN (pp_C 8 n + pp_C 8 n / 256 + (pp_C 8 n + pp_C 8 n / 256) / 65536) from by
    rw [show (16 : Int32) = nI 16 from rfl, ls_lN (by omega) (by decide), lN_add]]
  refine zz_lload_n rfl dJ13_bitCount_95d88_48 ?_
  refine zz_lload_n rfl dJ13_bitCount_95d88_49 ?_
  refine zz_bipush (v := 32) (by decide) dJ13_bitCount_95d88_50 ?_
  refine zz_lushr dJ13_bitCount_95d88_52 ?_
  refine zz_ladd dJ13_bitCount_95d88_53 ?_
  refine zz_lstore_n dJ13_bitCount_95d88_54 (by decide) ?_
  try dsimp only [zz_s1, zz_s2, zz_kill, zz_ent, zz_fl, List.set_cons_zero, List.set_cons_succ, List.getElem?_cons_zero, List.getElem?_cons_succ, Option.toList_some, Option.toList_none, List.cons_append, List.nil_append, List.append_nil, List.length_cons, List.length_nil, List.replicate_succ, List.replicate_zero, Nat.reduceAdd, Nat.reduceSub]
  rw [show lN (pp_C 8 n + pp_C 8 n / 256 + (pp_C 8 n + pp_C 8 n / 256) / 65536) + jv_lushr (lN (pp_C 8 n + pp_C 8 n / 256 + (pp_C 8 n + pp_C 8 n / 256) / 65536)) 32 = lN (pp_C 8 n + pp_C 8 n / 256 + (pp_C 8 n + pp_C 8 n / 256) / 65536 + (pp_C 8 n + pp_C 8 n / 256 + (pp_C 8 n + pp_C 8 n / 256) / 65536) / 4294967296) from by
    rw [show (32 : Int32) = nI 32 from rfl, ls_lN (by omega) (by decide), lN_add]]
  refine zz_lload_n rfl dJ13_bitCount_95d88_55 ?_
  refine zz_l2i dJ13_bitCount_95d88_56 ?_
  refine zz_bipush (v := 127) (by decide) dJ13_bitCount_95d88_57 ?_
  refine zz_iand dJ13_bitCount_95d88_59 ?_
  refine zz_ireturn dJ13_bitCount_95d88_60 rfl (by first | rfl | decide | assumption) ?_
  rw [lN_i, show (127 : Int32) = nI (2 ^ 7 - 1) by decide, fa_mask, pp_64 n hn]
  rw [fb_ct_cong (q := fun i => n.testBit i) (fun i hi => by rw [bl_lN]; simp [hi])] at hQ
  exact hQ
theorem cmp_lt {x z : Int64} : lg_cmp x z < 0 ↔ x < z := by
  unfold lg_cmp
  by_cases h1 : x > z
  · rw [if_pos h1]
    constructor
    · intro h; exact absurd h (by decide)
    · intro h; exact absurd (Int64.lt_trans h h1) (Int64.lt_irrefl)
  · rw [if_neg h1]
    by_cases h2 : x = z
    · rw [if_pos h2]
      constructor
      · intro h; exact absurd h (by decide)
      · intro h; rw [h2] at h; exact absurd h Int64.lt_irrefl
    · rw [if_neg h2]
      constructor
      · intro _
        rw [Int64.lt_iff_toInt_lt]
        rw [gt_iff_lt, Int64.lt_iff_toInt_lt] at h1
        have : x.toInt ≠ z.toInt := fun e => h2 (Int64.toInt_inj.mp e)
        omega
      · intro _; decide
/-- NeverMistaken.lowest -/
theorem sp_lowest (d : Nat) {x : Int64} {k : Nat} (hx : lowb x k) (hQ : Q (some (.int (nI k))) M I J) : zz_D mX9_lowest (d + 1) [.long x] M I J Q := by
  refine zz_D_of rfl (Nat.le_of_ble_eq_true rfl) ?_
  try dsimp only [zz_s1, zz_s2, zz_kill, zz_ent, zz_fl, List.set_cons_zero, List.set_cons_succ, List.getElem?_cons_zero, List.getElem?_cons_succ, Option.toList_some, Option.toList_none, List.cons_append, List.nil_append, List.append_nil, List.length_cons, List.length_nil, List.replicate_succ, List.replicate_zero, Nat.reduceAdd, Nat.reduceSub]
  refine zz_lload_n rfl dX9_lowest_0 ?_
  refine zz_lload_n rfl dX9_lowest_1 ?_
  refine zz_lneg dX9_lowest_2 ?_
  refine zz_land dX9_lowest_3 ?_
  refine zz_lconst (v := 1) (by decide) dX9_lowest_4 ?_
  refine zz_lsub dX9_lowest_5 ?_
  try dsimp only [zz_s1, zz_s2, zz_kill, zz_ent, zz_fl, List.set_cons_zero, List.set_cons_succ, List.getElem?_cons_zero, List.getElem?_cons_succ, Option.toList_some, Option.toList_none, List.cons_append, List.nil_append, List.append_nil, List.length_cons, List.length_nil, List.replicate_succ, List.replicate_zero, Nat.reduceAdd, Nat.reduceSub]
  refine zz_cS1 dX9_lowest_6 lX9_279 rfl (Nat.le_of_ble_eq_true rfl) (Nat.le_of_ble_eq_true rfl) ?_
  refine sp_bitCountJ d ?_
  try dsimp only [zz_s1, zz_s2, zz_kill, zz_ent, zz_fl, List.set_cons_zero, List.set_cons_succ, List.getElem?_cons_zero, List.getElem?_cons_succ, Option.toList_some, Option.toList_none, List.cons_append, List.nil_append, List.append_nil, List.length_cons, List.length_nil, List.replicate_succ, List.replicate_zero, Nat.reduceAdd, Nat.reduceSub]
  rw [bl_lowct hx]
  refine zz_ireturn dX9_lowest_9 rfl (by first | rfl | decide | assumption) ?_
  exact hQ
end PJdk

