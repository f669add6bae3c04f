/-! ===== the law's loop ===== -/
section LawLoop
variable {M : zz_M}
theorem lw_gt {L i : Nat} (hL : L ≤ 3072) (hi : i ≤ 4000) : (Int32.ofNat L - 6 < nI i) ↔ L < i + 6 := by
  have e : (Int32.ofNat L - 6).toInt = (L : Int) - 6 := by
    rw [Int32.toInt_sub, show (Int32.ofNat L).toInt = (L : Int) from nI_toInt (by omega), show (6 : Int32).toInt = 6 by decide]
    exact Int.bmod_eq_of_le (by omega) (by omega)
  rw [Int32.lt_iff_toInt_lt, e, nI_toInt (by omega)]
  omega
theorem law_loop {k : Nat} (hO : OK M) (hk : k ≤ 600) (hL : (M.2 0).2.1 ≤ 3072) : ∀ (q i mT : Nat) (I : zz_I) (J : zz_J), (M.2 0).2.1 ≤ i + 6 * q → i ≤ 4000 → mT + 600 * q ≤ 400000 → REL I → RT J mT → zz_G zz_yL 800 k 18 [some (.ref 0), some (.ref 1), some (.ref 259), some (.int (nI i))] [] M I J zz_QL := by
  intro q
  induction q with
  | zero =>
    intro i mT I J hq hi4 hmT hR hT
    refine zz_iload_n rfl dL_law_18 ?_
    refine zz_aload_n rfl dL_law_19 ?_
    refine zz_alen0 dL_law_20 ?_
    refine zz_bipush (v := 6) (by decide) dL_law_21 ?_
    refine zz_isub dL_law_23 ?_
    refine zz_icmp_gt (tgt := 1049) dL_law_24 (by decide) (fun hg => ?_) (fun hg => ?_)
    · refine zz_iconst (v := 1) (by decide) dL_law_1049 ?_
      refine zz_ireturn dL_law_1050 rfl (by rfl) ?_
      exact rfl
    · exact absurd ((lw_gt hL hi4).mpr (by omega)) hg
  | succ q ih =>
    intro i mT I J hq hi4 hmT hR hT
    refine zz_iload_n rfl dL_law_18 ?_
    refine zz_aload_n rfl dL_law_19 ?_
    refine zz_alen0 dL_law_20 ?_
    refine zz_bipush (v := 6) (by decide) dL_law_21 ?_
    refine zz_isub dL_law_23 ?_
    refine zz_icmp_gt (tgt := 1049) dL_law_24 (by decide) (fun hg => ?_) (fun hg => ?_)
    · refine zz_iconst (v := 1) (by decide) dL_law_1049 ?_
      refine zz_ireturn dL_law_1050 rfl (by rfl) ?_
      exact rfl
    have hi : i + 6 ≤ (M.2 0).2.1 := Nat.not_lt.mp (fun z => hg ((lw_gt hL hi4).mpr z))
    have nx : ∀ (I2 : zz_I) (J2 : zz_J), REL I2 → RT J2 (mT + 600) → zz_G zz_yL 800 k 1043 [some (.ref 0), some (.ref 1), some (.ref 259), some (.int (nI i))] [] M I2 J2 zz_QL := fun I2 J2 hR2 hT2 => by
      refine zz_iinc dL_law_1043 rfl (congrArg (HAdd.hAdd _) (show Int32.ofInt 6 = 6 by decide)) (by decide) ?_
      refine zz_goto (tgt := 18) dL_law_1046 (by decide) ?_
      try dsimp only [zz_s1, zz_s2, zz_kill, zz_ent, zz_fl, List.set_cons_zero, List.set_cons_succ, List.getElem?_cons_zero, List.getElem?_cons_succ, Option.toList_some, Option.toList_none, List.cons_append, List.nil_append, List.append_nil, List.length_cons, List.length_nil, List.replicate_succ, List.replicate_zero, Nat.reduceAdd, Nat.reduceSub]
      rw [show nI i + 6 = nI (i + 6) from nI_add i 6]
      exact ih (i + 6) (mT + 600) I2 J2 (by omega) (by omega) (by omega) hR2 hT2
    refine zz_aload_n rfl dL_law_27 ?_
    refine zz_iload_n rfl dL_law_28 ?_
    refine zz_iald0 dL_law_29 (vp_in_nI (by omega) (by omega)) ?_
    refine zz_bipush (v := 31) (by decide) dL_law_30 ?_
    refine zz_iand dL_law_32 ?_
    obtain ⟨c, hc, ec⟩ := pk_andE (I 0 (nI i).toNatClampNeg) (m := 31) 5 (by decide)
    rw [ec]
    match c, hc with
    | 0, _ => exact zz_tabIn (off := 123) (tgt := 156) dL_law_33 (by decide) (by decide) (by decide) (by decide) (law_0 hO hR (by omega) hT hk hi hL nx)
    | 1, _ => exact zz_tabIn (off := 186) (tgt := 219) dL_law_33 (by decide) (by decide) (by decide) (by decide) (law_1 hO hR (by omega) hT hk hi hL nx)
    | 2, _ => exact zz_tabIn (off := 209) (tgt := 242) dL_law_33 (by decide) (by decide) (by decide) (by decide) (law_2 hO hR (by omega) hT hk hi hL nx)
    | 3, _ => exact zz_tabIn (off := 242) (tgt := 275) dL_law_33 (by decide) (by decide) (by decide) (by decide) (law_3 hO hR (by omega) hT hk hi hL nx)
    | 4, _ => exact zz_tabIn (off := 311) (tgt := 344) dL_law_33 (by decide) (by decide) (by decide) (by decide) (law_4 hO hR (by omega) hT hk hi hL nx)
    | 5, _ => exact zz_tabIn (off := 344) (tgt := 377) dL_law_33 (by decide) (by decide) (by decide) (by decide) (law_5 hO hR (by omega) hT hk hi hL nx)
    | 6, _ => exact zz_tabIn (off := 367) (tgt := 400) dL_law_33 (by decide) (by decide) (by decide) (by decide) (law_6 hO hR (by omega) hT hk hi hL nx)
    | 7, _ => exact zz_tabIn (off := 390) (tgt := 423) dL_law_33 (by decide) (by decide) (by decide) (by decide) (law_7 hO hR (by omega) hT hk hi hL nx)
    | 8, _ => exact zz_tabIn (off := 433) (tgt := 466) dL_law_33 (by decide) (by decide) (by decide) (by decide) (law_8 hO hR (by omega) hT hk hi hL nx)
    | 9, _ => exact zz_tabIn (off := 476) (tgt := 509) dL_law_33 (by decide) (by decide) (by decide) (by decide) (law_9 hO hR (by omega) hT hk hi hL nx)
    | 10, _ => exact zz_tabIn (off := 509) (tgt := 542) dL_law_33 (by decide) (by decide) (by decide) (by decide) (law_10 hO hR (by omega) hT hk hi hL nx)
    | 11, _ => exact zz_tabIn (off := 562) (tgt := 595) dL_law_33 (by decide) (by decide) (by decide) (by decide) (law_11 hO hR (by omega) hT hk hi hL nx)
    | 12, _ => exact zz_tabIn (off := 595) (tgt := 628) dL_law_33 (by decide) (by decide) (by decide) (by decide) (law_12 hO hR (by omega) hT hk hi hL nx)
    | 13, _ => exact zz_tabIn (off := 618) (tgt := 651) dL_law_33 (by decide) (by decide) (by decide) (by decide) (law_13 hO hR (by omega) hT hk hi hL nx)
    | 14, _ => exact zz_tabIn (off := 651) (tgt := 684) dL_law_33 (by decide) (by decide) (by decide) (by decide) (law_14 hO hR (by omega) hT hk hi hL nx)
    | 15, _ => exact zz_tabIn (off := 674) (tgt := 707) dL_law_33 (by decide) (by decide) (by decide) (by decide) (law_15 hO hR (by omega) hT hk hi hL nx)
    | 16, _ => exact zz_tabIn (off := 697) (tgt := 730) dL_law_33 (by decide) (by decide) (by decide) (by decide) (law_16 hO hR (by omega) hT hk hi hL nx)
    | 17, _ => exact zz_tabIn (off := 750) (tgt := 783) dL_law_33 (by decide) (by decide) (by decide) (by decide) (law_17 hO hR (by omega) hT hk hi hL nx)
    | 18, _ => exact zz_tabIn (off := 773) (tgt := 806) dL_law_33 (by decide) (by decide) (by decide) (by decide) (law_18 hO hR (by omega) hT hk hi hL nx)
    | 19, _ => exact zz_tabIn (off := 806) (tgt := 839) dL_law_33 (by decide) (by decide) (by decide) (by decide) (law_19 hO hR (by omega) hT hk hi hL nx)
    | 20, _ => exact zz_tabIn (off := 859) (tgt := 892) dL_law_33 (by decide) (by decide) (by decide) (by decide) (law_20 hO hR (by omega) hT hk hi hL nx)
    | 21, _ => exact zz_tabIn (off := 882) (tgt := 915) dL_law_33 (by decide) (by decide) (by decide) (by decide) (law_21 hO hR (by omega) hT hk hi hL nx)
    | 22, _ => exact zz_tabIn (off := 905) (tgt := 938) dL_law_33 (by decide) (by decide) (by decide) (by decide) (law_22 hO hR (by omega) hT hk hi hL nx)
    | 23, _ => exact zz_tabIn (off := 928) (tgt := 961) dL_law_33 (by decide) (by decide) (by decide) (by decide) (law_23 hO hR (by omega) hT hk hi hL nx)
    | 24, _ => exact zz_tabIn (off := 941) (tgt := 974) dL_law_33 (by decide) (by decide) (by decide) (by decide) (law_24 hO hR (by omega) hT hk hi hL nx)
    | 25, _ => exact zz_tabIn (off := 974) (tgt := 1007) dL_law_33 (by decide) (by decide) (by decide) (by decide) (law_25 hO hR (by omega) hT hk hi hL nx)
    | 26, _ => exact zz_tabIn (off := 987) (tgt := 1020) dL_law_33 (by decide) (by decide) (by decide) (by decide) (law_26 hO hR (by omega) hT hk hi hL nx)
    | c + 27, hc => exact zz_tabOut (tgt := 1043) dL_law_33 (Or.inr (by rw [nI_toInt (by omega)]; omega)) (by decide) (nx I J hR hT.up)
end LawLoop
theorem zz_law {L : Nat} {xs : Nat → Int32} (hL : L ≤ 3072) : zz_G zz_yL 800 0 0 (zz_ent 4 [.ref 0]) [] (zz_M0 L) (zz_I0 xs) zz_J0 zz_QL := by
  have hA0 : AG L (zz_M0 L) 0 [] 0 := ⟨rfl, fun c h1 h2 => absurd h1 (by omega), fun q hq => absurd hq (by simp), fun c f h1 h2 => absurd h2 (by unfold LN; omega), fun l' hl' => absurd hl' (Nat.not_lt_zero l'), rfl, Or.inl rfl⟩
  have hI0 : FR (zz_I0 xs) 0 := fun c hc => if_neg (by omega)
  have hJ0 : FJ zz_J0 0 := fun c _ => rfl
  try dsimp only [zz_s1, zz_s2, zz_kill, zz_ent, zz_fl, List.set_cons_zero, List.set_cons_succ, List.getElem?_cons_zero, List.getElem?_cons_succ, Option.toList_some, Option.toList_none, List.cons_append, List.nil_append, List.append_nil, List.length_cons, List.length_nil, List.replicate_succ, List.replicate_zero, Nat.reduceAdd, Nat.reduceSub]
  refine zz_new (ci := 9) dL_law_0 rfl qL_7 inX9 iiX9 (Nat.le_of_ble_eq_true rfl) (by decide) (hA0.fr hI0) (hA0.fj hJ0) ?_
  have hA1 : AG L (zz_pu (zz_M0 L) (0, 9, fun _ => none)) 1 [] 0 := hA0.pu (by decide +kernel) (Or.inl rfl)
  rw [hA0.1]
  try dsimp only [zz_s1, zz_s2, zz_kill, zz_ent, zz_fl, List.set_cons_zero, List.set_cons_succ, List.getElem?_cons_zero, List.getElem?_cons_succ, Option.toList_some, Option.toList_none, List.cons_append, List.nil_append, List.append_nil, List.length_cons, List.length_nil, List.replicate_succ, List.replicate_zero, Nat.reduceAdd, Nat.reduceSub]
  generalize zz_pu (zz_M0 L) (0, 9, fun _ => none) = M1 at hA1 ⊢
  refine zz_dup rfl dL_law_3 ?_
  refine zz_cI dL_law_4 lL_9 (Nat.le_of_ble_eq_true rfl) (Nat.le_of_ble_eq_true rfl) ?_
  refine sp_X9_init 797 hA1 (hI0.up (by decide)) (hJ0.up (by decide)) (fun M2 I2 J2 hA2 hI2 hJ2 hV2 hL2 hZ2 hK2 => ?_)
  try dsimp only [zz_s1, zz_s2, zz_kill, zz_ent, zz_fl, List.set_cons_zero, List.set_cons_succ, List.getElem?_cons_zero, List.getElem?_cons_succ, Option.toList_some, Option.toList_none, List.cons_append, List.nil_append, List.append_nil, List.length_cons, List.length_nil, List.replicate_succ, List.replicate_zero, Nat.reduceAdd, Nat.reduceSub]
  refine zz_astore_n dL_law_7 (by decide) ?_
  try dsimp only [zz_s1, zz_s2, zz_kill, zz_ent, zz_fl, List.set_cons_zero, List.set_cons_succ, List.getElem?_cons_zero, List.getElem?_cons_succ, Option.toList_some, Option.toList_none, List.cons_append, List.nil_append, List.append_nil, List.length_cons, List.length_nil, List.replicate_succ, List.replicate_zero, Nat.reduceAdd, Nat.reduceSub]
  refine zz_new (ci := 10) dL_law_8 rfl qL_10 inX10 iiX10 (Nat.le_of_ble_eq_true rfl) (by decide) (hA2.fr hI2) (hA2.fj hJ2) ?_
  have hA3 : AG L (zz_pu M2 (0, 10, fun _ => none)) 259 zo_D9 8 := hA2.pu (by decide +kernel) (Or.inr (by decide))
  rw [hA2.1]
  try dsimp only [zz_s1, zz_s2, zz_kill, zz_ent, zz_fl, List.set_cons_zero, List.set_cons_succ, List.getElem?_cons_zero, List.getElem?_cons_succ, Option.toList_some, Option.toList_none, List.cons_append, List.nil_append, List.append_nil, List.length_cons, List.length_nil, List.replicate_succ, List.replicate_zero, Nat.reduceAdd, Nat.reduceSub]
  generalize zz_pu M2 (0, 10, fun _ => none) = M3 at hA3 ⊢
  refine zz_dup rfl dL_law_11 ?_
  refine zz_cI dL_law_12 lL_12 (Nat.le_of_ble_eq_true rfl) (Nat.le_of_ble_eq_true rfl) ?_
  refine sp_X10_init 798 hA3 hI2 (hJ2.up (by decide)) (fun M4 I4 hA4 f4 hV4 h258 => ?_)
  try dsimp only [zz_s1, zz_s2, zz_kill, zz_ent, zz_fl, List.set_cons_zero, List.set_cons_succ, List.getElem?_cons_zero, List.getElem?_cons_succ, Option.toList_some, Option.toList_none, List.cons_append, List.nil_append, List.append_nil, List.length_cons, List.length_nil, List.replicate_succ, List.replicate_zero, Nat.reduceAdd, Nat.reduceSub]
  refine zz_astore_n dL_law_15 (by decide) ?_
  refine zz_iconst (v := 0) (by decide) dL_law_16 ?_
  refine zz_istore_n dL_law_17 (by decide) ?_
  try dsimp only [zz_s1, zz_s2, zz_kill, zz_ent, zz_fl, List.set_cons_zero, List.set_cons_succ, List.getElem?_cons_zero, List.getElem?_cons_succ, Option.toList_some, Option.toList_none, List.cons_append, List.nil_append, List.append_nil, List.length_cons, List.length_nil, List.replicate_succ, List.replicate_zero, Nat.reduceAdd, Nat.reduceSub]
  have hO : OK M4 := hA4.ok (by decide +kernel)
  have hM : (M4.2 0).2.1 = L := hA4.2.2.2.2.2.1
  exact law_loop hO (Nat.le_of_ble_eq_true rfl) (by rw [hM]; exact hL) 512 0 0 I4 _ (by rw [hM]; omega) (by decide) (by decide) (rel_start hV2 hL2 hI2 f4 hV4 h258) ⟨0, Nat.le_refl 0, hK2.1, fun s _ => ⟨0, by decide, by rw [hK2.2]; rfl, by decide⟩⟩
