/-! ===== the constructors ===== -/
section Inits
variable {L : Nat} {M : zz_M} {I : zz_I} {J : zz_J} {Q : zz_Q} {D : List (Nat × Nat)}
theorem sp_X7_init (d : Nat) (hA : AG L M 2 D 0) (hI : FR I 2) (hJ : FJ J 2) (hQ : ∀ (M' : zz_M) (I' : zz_I) (J' : zz_J), AG L M' 3 ((2, 0) :: D) 0 → (∀ c, c ≠ 2 → I' c = I c) → (∀ c, c ≠ 2 → J' c = J c) → I' 2 1 = 0 → Q none M' I' J') : zz_D mX7_init (d + 1) [.ref 2] M I J Q := by
  refine zz_D_of rfl (Nat.le_of_ble_eq_true rfl) ?_
  try dsimp only [zz_s1, zz_s2, zz_kill, zz_ent, zz_fl, List.set_cons_zero, List.set_cons_succ, List.getElem?_cons_zero, List.getElem?_cons_succ, Option.toList_some, Option.toList_none, List.cons_append, List.nil_append, List.append_nil, List.length_cons, List.length_nil, List.replicate_succ, List.replicate_zero, Nat.reduceAdd, Nat.reduceSub]
  refine zz_aload_n rfl dX7_init_0 ?_
  refine zz_objInit dX7_init_1 oX7_1 zz_oi1 zz_oi2 (Nat.le_of_ble_eq_true rfl) ?_
  try dsimp only [zz_s1, zz_s2, zz_kill, zz_ent, zz_fl, List.set_cons_zero, List.set_cons_succ, List.getElem?_cons_zero, List.getElem?_cons_succ, Option.toList_some, Option.toList_none, List.cons_append, List.nil_append, List.append_nil, List.length_cons, List.length_nil, List.replicate_succ, List.replicate_zero, Nat.reduceAdd, Nat.reduceSub]
  refine zz_aload_n rfl dX7_init_4 ?_
  refine zz_sipush (v := 600) (by decide) dX7_init_5 ?_
  have hA1 : AG L (zz_pu M (1, 600, fun _ => none)) 3 (D) 0 := hA.pu (by decide +kernel) (Or.inl rfl)
  refine zz_newarr (t := 1) (N := 600) dX7_init_8 rfl ac_int (Nat.le_of_ble_eq_true rfl) (by decide) (by decide) (by decide) (hA.fr hI) (hA.fj hJ) (Or.inl ⟨rfl, rfl⟩) ?_
  rw [hA.1]
  try dsimp only [zz_s1, zz_s2, zz_kill, zz_ent, zz_fl, List.set_cons_zero, List.set_cons_succ, List.getElem?_cons_zero, List.getElem?_cons_succ, Option.toList_some, Option.toList_none, List.cons_append, List.nil_append, List.append_nil, List.length_cons, List.length_nil, List.replicate_succ, List.replicate_zero, Nat.reduceAdd, Nat.reduceSub]
  generalize zz_pu M (1, 600, fun _ => none) = M1 at hA1 ⊢
  have hA2 : AG L (M1.1, zz_us M1.2 2 0 (some 3)) 3 ((2, 0) :: (D)) 0 := hA1.us (by decide) (by decide) (by decide +kernel)
  refine zz_putr (q := 3) dX7_init_10 fX7_9 (fun _ _ _ _ => rfl) (fun w => ⟨rfl, rfl⟩) (fun q h => by cases h; exact ⟨rfl, rfl⟩) rfl (hA1.is (by decide) (by decide) (by decide +kernel)) ?_
  generalize (M1.1, zz_us M1.2 2 0 (some 3)) = M2 at hA2 ⊢
  refine zz_aload_n rfl dX7_init_13 ?_
  refine zz_iconst (v := 0) (by decide) dX7_init_14 ?_
  refine zz_puti dX7_init_15 fX7_13 rfl (fun q h => by cases h; rfl) (hA2.is (by decide) (by decide) (by decide +kernel)) ?_
  refine zz_return dX7_init_18 rfl ?_
  exact hQ _ _ _ hA2 (fun c hc => by rw [zz_ui_ne _ _ _ hc]) (fun c hc => rfl) (by rw [zz_ui_at, pk_us])
theorem sp_X8_init (d : Nat) (hA : AG L M 4 D 0) (hI : FR I 4) (hJ : FJ J 4) (hQ : ∀ (M' : zz_M) (I' : zz_I) (J' : zz_J), AG L M' 5 ((4, 0) :: D) 0 → (∀ c, c ≠ 4 → I' c = I c) → (∀ c, c ≠ 4 → J' c = J c) → I' 4 2 = 0 → I' 4 3 = (-1) → Q none M' I' J') : zz_D mX8_init (d + 1) [.ref 4] M I J Q := by
  refine zz_D_of rfl (Nat.le_of_ble_eq_true rfl) ?_
  try dsimp only [zz_s1, zz_s2, zz_kill, zz_ent, zz_fl, List.set_cons_zero, List.set_cons_succ, List.getElem?_cons_zero, List.getElem?_cons_succ, Option.toList_some, Option.toList_none, List.cons_append, List.nil_append, List.append_nil, List.length_cons, List.length_nil, List.replicate_succ, List.replicate_zero, Nat.reduceAdd, Nat.reduceSub]
  refine zz_aload_n rfl dX8_init_0 ?_
  refine zz_objInit dX8_init_1 oX8_3 zz_oi1 zz_oi2 (Nat.le_of_ble_eq_true rfl) ?_
  try dsimp only [zz_s1, zz_s2, zz_kill, zz_ent, zz_fl, List.set_cons_zero, List.set_cons_succ, List.getElem?_cons_zero, List.getElem?_cons_succ, Option.toList_some, Option.toList_none, List.cons_append, List.nil_append, List.append_nil, List.length_cons, List.length_nil, List.replicate_succ, List.replicate_zero, Nat.reduceAdd, Nat.reduceSub]
  refine zz_aload_n rfl dX8_init_4 ?_
  refine zz_bipush (v := 24) (by decide) dX8_init_5 ?_
  have hA1 : AG L (zz_pu M (1, 24, fun _ => none)) 5 (D) 0 := hA.pu (by decide +kernel) (Or.inl rfl)
  refine zz_newarr (t := 1) (N := 24) dX8_init_7 rfl ac_int (Nat.le_of_ble_eq_true rfl) (by decide) (by decide) (by decide) (hA.fr hI) (hA.fj hJ) (Or.inl ⟨rfl, rfl⟩) ?_
  rw [hA.1]
  try dsimp only [zz_s1, zz_s2, zz_kill, zz_ent, zz_fl, List.set_cons_zero, List.set_cons_succ, List.getElem?_cons_zero, List.getElem?_cons_succ, Option.toList_some, Option.toList_none, List.cons_append, List.nil_append, List.append_nil, List.length_cons, List.length_nil, List.replicate_succ, List.replicate_zero, Nat.reduceAdd, Nat.reduceSub]
  generalize zz_pu M (1, 24, fun _ => none) = M1 at hA1 ⊢
  have hA2 : AG L (M1.1, zz_us M1.2 4 0 (some 5)) 5 ((4, 0) :: (D)) 0 := hA1.us (by decide) (by decide) (by decide +kernel)
  refine zz_putr (q := 5) dX8_init_9 fX8_9 (fun _ _ _ _ => rfl) (fun w => ⟨rfl, rfl⟩) (fun q h => by cases h; exact ⟨rfl, rfl⟩) rfl (hA1.is (by decide) (by decide) (by decide +kernel)) ?_
  generalize (M1.1, zz_us M1.2 4 0 (some 5)) = M2 at hA2 ⊢
  refine zz_aload_n rfl dX8_init_12 ?_
  refine zz_iconst (v := 0) (by decide) dX8_init_13 ?_
  refine zz_puti dX8_init_14 fX8_15 rfl (fun q h => by cases h; rfl) (hA2.is (by decide) (by decide) (by decide +kernel)) ?_
  refine zz_aload_n rfl dX8_init_17 ?_
  refine zz_iconst (v := 0) (by decide) dX8_init_18 ?_
  refine zz_puti dX8_init_19 fX8_19 rfl (fun q h => by cases h; rfl) (hA2.is (by decide) (by decide) (by decide +kernel)) ?_
  refine zz_aload_n rfl dX8_init_22 ?_
  refine zz_iconst (v := (-1)) (by decide) dX8_init_23 ?_
  refine zz_puti dX8_init_24 fX8_22 rfl (fun q h => by cases h; rfl) (hA2.is (by decide) (by decide) (by decide +kernel)) ?_
  refine zz_return dX8_init_27 rfl ?_
  exact hQ _ _ _ hA2 (fun c hc => by rw [zz_ui_ne _ _ _ hc, zz_ui_ne _ _ _ hc, zz_ui_ne _ _ _ hc]) (fun c hc => rfl) (by rw [zz_ui_at, pk_un (by decide), zz_ui_at, pk_us]) (by rw [zz_ui_at, pk_us])
theorem sp_X1_init (d : Nat) (hA : AG L M 8 D 0) (hI : FR I 8) (hJ : FJ J 8) (hQ : ∀ (M' : zz_M) (I' : zz_I) (J' : zz_J), AG L M' 9 ((8, 0) :: D) 0 → (∀ c, c ≠ 8 → I' c = I c) → (∀ c, c ≠ 8 → J' c = J c) → Q none M' I' J') : zz_D mX1_init (d + 1) [.ref 8] M I J Q := by
  refine zz_D_of rfl (Nat.le_of_ble_eq_true rfl) ?_
  try dsimp only [zz_s1, zz_s2, zz_kill, zz_ent, zz_fl, List.set_cons_zero, List.set_cons_succ, List.getElem?_cons_zero, List.getElem?_cons_succ, Option.toList_some, Option.toList_none, List.cons_append, List.nil_append, List.append_nil, List.length_cons, List.length_nil, List.replicate_succ, List.replicate_zero, Nat.reduceAdd, Nat.reduceSub]
  refine zz_aload_n rfl dX1_init_0 ?_
  refine zz_objInit dX1_init_1 oX1_3 zz_oi1 zz_oi2 (Nat.le_of_ble_eq_true rfl) ?_
  try dsimp only [zz_s1, zz_s2, zz_kill, zz_ent, zz_fl, List.set_cons_zero, List.set_cons_succ, List.getElem?_cons_zero, List.getElem?_cons_succ, Option.toList_some, Option.toList_none, List.cons_append, List.nil_append, List.append_nil, List.length_cons, List.length_nil, List.replicate_succ, List.replicate_zero, Nat.reduceAdd, Nat.reduceSub]
  refine zz_aload_n rfl dX1_init_4 ?_
  refine zz_bipush (v := 64) (by decide) dX1_init_5 ?_
  have hA1 : AG L (zz_pu M (2, 64, fun _ => none)) 9 (D) 0 := hA.pu (by decide +kernel) (Or.inl rfl)
  refine zz_newarr (t := 2) (N := 64) dX1_init_7 rfl ac_long (Nat.le_of_ble_eq_true rfl) (by decide) (by decide) (by decide) (hA.fr hI) (hA.fj hJ) (Or.inr (Or.inl ⟨rfl, rfl⟩)) ?_
  rw [hA.1]
  try dsimp only [zz_s1, zz_s2, zz_kill, zz_ent, zz_fl, List.set_cons_zero, List.set_cons_succ, List.getElem?_cons_zero, List.getElem?_cons_succ, Option.toList_some, Option.toList_none, List.cons_append, List.nil_append, List.append_nil, List.length_cons, List.length_nil, List.replicate_succ, List.replicate_zero, Nat.reduceAdd, Nat.reduceSub]
  generalize zz_pu M (2, 64, fun _ => none) = M1 at hA1 ⊢
  have hA2 : AG L (M1.1, zz_us M1.2 8 0 (some 9)) 9 ((8, 0) :: (D)) 0 := hA1.us (by decide) (by decide) (by decide +kernel)
  refine zz_putr (q := 9) dX1_init_9 fX1_9 (fun _ _ _ _ => rfl) (fun w => ⟨rfl, rfl⟩) (fun q h => by cases h; exact ⟨rfl, rfl⟩) rfl (hA1.is (by decide) (by decide) (by decide +kernel)) ?_
  generalize (M1.1, zz_us M1.2 8 0 (some 9)) = M2 at hA2 ⊢
  refine zz_aload_n rfl dX1_init_12 ?_
  refine zz_iconst (v := 0) (by decide) dX1_init_13 ?_
  refine zz_puti dX1_init_14 fX1_15 rfl (fun q h => by cases h; rfl) (hA2.is (by decide) (by decide) (by decide +kernel)) ?_
  refine zz_aload_n rfl dX1_init_17 ?_
  refine zz_lconst (v := 0) (by decide) dX1_init_18 ?_
  refine zz_putl dX1_init_19 fX1_19 rfl (fun q h => by cases h; rfl) (hA2.is (by decide) (by decide) (by decide +kernel)) ?_
  refine zz_aload_n rfl dX1_init_22 ?_
  refine zz_iconst (v := 0) (by decide) dX1_init_23 ?_
  refine zz_puti dX1_init_24 fX1_23 rfl (fun q h => by cases h; rfl) (hA2.is (by decide) (by decide) (by decide +kernel)) ?_
  refine zz_aload_n rfl dX1_init_27 ?_
  refine zz_iconst (v := 0) (by decide) dX1_init_28 ?_
  refine zz_puti dX1_init_29 fX1_26 rfl (fun q h => by cases h; rfl) (hA2.is (by decide) (by decide) (by decide +kernel)) ?_
  refine zz_return dX1_init_32 rfl ?_
  exact hQ _ _ _ hA2 (fun c hc => by rw [zz_ui_ne _ _ _ hc, zz_ui_ne _ _ _ hc, zz_ui_ne _ _ _ hc]) (fun c hc => by rw [zz_uj_ne _ _ _ hc]) 
theorem sp_X2_init (d : Nat) (hA : AG L M 10 D 0) (hI : FR I 10) (hJ : FJ J 10) (hQ : ∀ (M' : zz_M) (I' : zz_I) (J' : zz_J), AG L M' 15 ((10, 4) :: (10, 3) :: (10, 2) :: (10, 1) :: (10, 0) :: D) 0 → (∀ c, c ≠ 10 → I' c = I c) → (∀ c, c ≠ 10 → J' c = J c) → J' 10 5 = 0 → Q none M' I' J') : zz_D mX2_init (d + 1) [.ref 10] M I J Q := by
  refine zz_D_of rfl (Nat.le_of_ble_eq_true rfl) ?_
  try dsimp only [zz_s1, zz_s2, zz_kill, zz_ent, zz_fl, List.set_cons_zero, List.set_cons_succ, List.getElem?_cons_zero, List.getElem?_cons_succ, Option.toList_some, Option.toList_none, List.cons_append, List.nil_append, List.append_nil, List.length_cons, List.length_nil, List.replicate_succ, List.replicate_zero, Nat.reduceAdd, Nat.reduceSub]
  refine zz_aload_n rfl dX2_init_0 ?_
  refine zz_objInit dX2_init_1 oX2_3 zz_oi1 zz_oi2 (Nat.le_of_ble_eq_true rfl) ?_
  try dsimp only [zz_s1, zz_s2, zz_kill, zz_ent, zz_fl, List.set_cons_zero, List.set_cons_succ, List.getElem?_cons_zero, List.getElem?_cons_succ, Option.toList_some, Option.toList_none, List.cons_append, List.nil_append, List.append_nil, List.length_cons, List.length_nil, List.replicate_succ, List.replicate_zero, Nat.reduceAdd, Nat.reduceSub]
  refine zz_aload_n rfl dX2_init_4 ?_
  refine zz_bipush (v := 24) (by decide) dX2_init_5 ?_
  have hA1 : AG L (zz_pu M (1, 24, fun _ => none)) 11 (D) 0 := hA.pu (by decide +kernel) (Or.inl rfl)
  refine zz_newarr (t := 1) (N := 24) dX2_init_7 rfl ac_int (Nat.le_of_ble_eq_true rfl) (by decide) (by decide) (by decide) (hA.fr hI) (hA.fj hJ) (Or.inl ⟨rfl, rfl⟩) ?_
  rw [hA.1]
  try dsimp only [zz_s1, zz_s2, zz_kill, zz_ent, zz_fl, List.set_cons_zero, List.set_cons_succ, List.getElem?_cons_zero, List.getElem?_cons_succ, Option.toList_some, Option.toList_none, List.cons_append, List.nil_append, List.append_nil, List.length_cons, List.length_nil, List.replicate_succ, List.replicate_zero, Nat.reduceAdd, Nat.reduceSub]
  generalize zz_pu M (1, 24, fun _ => none) = M1 at hA1 ⊢
  have hA2 : AG L (M1.1, zz_us M1.2 10 0 (some 11)) 11 ((10, 0) :: (D)) 0 := hA1.us (by decide) (by decide) (by decide +kernel)
  refine zz_putr (q := 11) dX2_init_9 fX2_9 (fun _ _ _ _ => rfl) (fun w => ⟨rfl, rfl⟩) (fun q h => by cases h; exact ⟨rfl, rfl⟩) rfl (hA1.is (by decide) (by decide) (by decide +kernel)) ?_
  generalize (M1.1, zz_us M1.2 10 0 (some 11)) = M2 at hA2 ⊢
  refine zz_aload_n rfl dX2_init_12 ?_
  refine zz_bipush (v := 24) (by decide) dX2_init_13 ?_
  have hA3 : AG L (zz_pu M2 (1, 24, fun _ => none)) 12 ((10, 0) :: D) 0 := hA2.pu (by decide +kernel) (Or.inl rfl)
  refine zz_newarr (t := 1) (N := 24) dX2_init_15 rfl ac_int (Nat.le_of_ble_eq_true rfl) (by decide) (by decide) (by decide) (hA2.fr (FR.up (N' := 11) hI (by decide))) (hA2.fj (FJ.up (N' := 11) hJ (by decide))) (Or.inl ⟨rfl, rfl⟩) ?_
  rw [hA2.1]
  try dsimp only [zz_s1, zz_s2, zz_kill, zz_ent, zz_fl, List.set_cons_zero, List.set_cons_succ, List.getElem?_cons_zero, List.getElem?_cons_succ, Option.toList_some, Option.toList_none, List.cons_append, List.nil_append, List.append_nil, List.length_cons, List.length_nil, List.replicate_succ, List.replicate_zero, Nat.reduceAdd, Nat.reduceSub]
  generalize zz_pu M2 (1, 24, fun _ => none) = M3 at hA3 ⊢
  have hA4 : AG L (M3.1, zz_us M3.2 10 1 (some 12)) 12 ((10, 1) :: ((10, 0) :: D)) 0 := hA3.us (by decide) (by decide) (by decide +kernel)
  refine zz_putr (q := 12) dX2_init_17 fX2_15 (fun _ _ _ _ => rfl) (fun w => ⟨rfl, rfl⟩) (fun q h => by cases h; exact ⟨rfl, rfl⟩) rfl (hA3.is (by decide) (by decide) (by decide +kernel)) ?_
  generalize (M3.1, zz_us M3.2 10 1 (some 12)) = M4 at hA4 ⊢
  refine zz_aload_n rfl dX2_init_20 ?_
  refine zz_bipush (v := 24) (by decide) dX2_init_21 ?_
  have hA5 : AG L (zz_pu M4 (1, 24, fun _ => none)) 13 ((10, 1) :: (10, 0) :: D) 0 := hA4.pu (by decide +kernel) (Or.inl rfl)
  refine zz_newarr (t := 1) (N := 24) dX2_init_23 rfl ac_int (Nat.le_of_ble_eq_true rfl) (by decide) (by decide) (by decide) (hA4.fr (FR.up (N' := 12) (FR.up (N' := 11) hI (by decide)) (by decide))) (hA4.fj (FJ.up (N' := 12) (FJ.up (N' := 11) hJ (by decide)) (by decide))) (Or.inl ⟨rfl, rfl⟩) ?_
  rw [hA4.1]
  try dsimp only [zz_s1, zz_s2, zz_kill, zz_ent, zz_fl, List.set_cons_zero, List.set_cons_succ, List.getElem?_cons_zero, List.getElem?_cons_succ, Option.toList_some, Option.toList_none, List.cons_append, List.nil_append, List.append_nil, List.length_cons, List.length_nil, List.replicate_succ, List.replicate_zero, Nat.reduceAdd, Nat.reduceSub]
  generalize zz_pu M4 (1, 24, fun _ => none) = M5 at hA5 ⊢
  have hA6 : AG L (M5.1, zz_us M5.2 10 2 (some 13)) 13 ((10, 2) :: ((10, 1) :: (10, 0) :: D)) 0 := hA5.us (by decide) (by decide) (by decide +kernel)
  refine zz_putr (q := 13) dX2_init_25 fX2_18 (fun _ _ _ _ => rfl) (fun w => ⟨rfl, rfl⟩) (fun q h => by cases h; exact ⟨rfl, rfl⟩) rfl (hA5.is (by decide) (by decide) (by decide +kernel)) ?_
  generalize (M5.1, zz_us M5.2 10 2 (some 13)) = M6 at hA6 ⊢
  refine zz_aload_n rfl dX2_init_28 ?_
  refine zz_bipush (v := 24) (by decide) dX2_init_29 ?_
  have hA7 : AG L (zz_pu M6 (1, 24, fun _ => none)) 14 ((10, 2) :: (10, 1) :: (10, 0) :: D) 0 := hA6.pu (by decide +kernel) (Or.inl rfl)
  refine zz_newarr (t := 1) (N := 24) dX2_init_31 rfl ac_int (Nat.le_of_ble_eq_true rfl) (by decide) (by decide) (by decide) (hA6.fr (FR.up (N' := 13) (FR.up (N' := 12) (FR.up (N' := 11) hI (by decide)) (by decide)) (by decide))) (hA6.fj (FJ.up (N' := 13) (FJ.up (N' := 12) (FJ.up (N' := 11) hJ (by decide)) (by decide)) (by decide))) (Or.inl ⟨rfl, rfl⟩) ?_
  rw [hA6.1]
  try dsimp only [zz_s1, zz_s2, zz_kill, zz_ent, zz_fl, List.set_cons_zero, List.set_cons_succ, List.getElem?_cons_zero, List.getElem?_cons_succ, Option.toList_some, Option.toList_none, List.cons_append, List.nil_append, List.append_nil, List.length_cons, List.length_nil, List.replicate_succ, List.replicate_zero, Nat.reduceAdd, Nat.reduceSub]
  generalize zz_pu M6 (1, 24, fun _ => none) = M7 at hA7 ⊢
  have hA8 : AG L (M7.1, zz_us M7.2 10 3 (some 14)) 14 ((10, 3) :: ((10, 2) :: (10, 1) :: (10, 0) :: D)) 0 := hA7.us (by decide) (by decide) (by decide +kernel)
  refine zz_putr (q := 14) dX2_init_33 fX2_21 (fun _ _ _ _ => rfl) (fun w => ⟨rfl, rfl⟩) (fun q h => by cases h; exact ⟨rfl, rfl⟩) rfl (hA7.is (by decide) (by decide) (by decide +kernel)) ?_
  generalize (M7.1, zz_us M7.2 10 3 (some 14)) = M8 at hA8 ⊢
  refine zz_aload_n rfl dX2_init_36 ?_
  refine zz_sipush (v := 512) (by decide) dX2_init_37 ?_
  have hA9 : AG L (zz_pu M8 (2, 512, fun _ => none)) 15 ((10, 3) :: (10, 2) :: (10, 1) :: (10, 0) :: D) 0 := hA8.pu (by decide +kernel) (Or.inl rfl)
  refine zz_newarr (t := 2) (N := 512) dX2_init_40 rfl ac_long (Nat.le_of_ble_eq_true rfl) (by decide) (by decide) (by decide) (hA8.fr (FR.up (N' := 14) (FR.up (N' := 13) (FR.up (N' := 12) (FR.up (N' := 11) hI (by decide)) (by decide)) (by decide)) (by decide))) (hA8.fj (FJ.up (N' := 14) (FJ.up (N' := 13) (FJ.up (N' := 12) (FJ.up (N' := 11) hJ (by decide)) (by decide)) (by decide)) (by decide))) (Or.inr (Or.inl ⟨rfl, rfl⟩)) ?_
  rw [hA8.1]
  try dsimp only [zz_s1, zz_s2, zz_kill, zz_ent, zz_fl, List.set_cons_zero, List.set_cons_succ, List.getElem?_cons_zero, List.getElem?_cons_succ, Option.toList_some, Option.toList_none, List.cons_append, List.nil_append, List.append_nil, List.length_cons, List.length_nil, List.replicate_succ, List.replicate_zero, Nat.reduceAdd, Nat.reduceSub]
  generalize zz_pu M8 (2, 512, fun _ => none) = M9 at hA9 ⊢
  have hA10 : AG L (M9.1, zz_us M9.2 10 4 (some 15)) 15 ((10, 4) :: ((10, 3) :: (10, 2) :: (10, 1) :: (10, 0) :: D)) 0 := hA9.us (by decide) (by decide) (by decide +kernel)
  refine zz_putr (q := 15) dX2_init_42 fX2_24 (fun _ _ _ _ => rfl) (fun w => ⟨rfl, rfl⟩) (fun q h => by cases h; exact ⟨rfl, rfl⟩) rfl (hA9.is (by decide) (by decide) (by decide +kernel)) ?_
  generalize (M9.1, zz_us M9.2 10 4 (some 15)) = M10 at hA10 ⊢
  refine zz_aload_n rfl dX2_init_45 ?_
  refine zz_lconst (v := 0) (by decide) dX2_init_46 ?_
  refine zz_putl dX2_init_47 fX2_28 rfl (fun q h => by cases h; rfl) (hA10.is (by decide) (by decide) (by decide +kernel)) ?_
  refine zz_aload_n rfl dX2_init_50 ?_
  refine zz_iconst (v := 0) (by decide) dX2_init_51 ?_
  refine zz_puti dX2_init_52 fX2_32 rfl (fun q h => by cases h; rfl) (hA10.is (by decide) (by decide) (by decide +kernel)) ?_
  refine zz_aload_n rfl dX2_init_55 ?_
  refine zz_iconst (v := 0) (by decide) dX2_init_56 ?_
  refine zz_puti dX2_init_57 fX2_36 rfl (fun q h => by cases h; rfl) (hA10.is (by decide) (by decide) (by decide +kernel)) ?_
  refine zz_aload_n rfl dX2_init_60 ?_
  refine zz_iconst (v := 0) (by decide) dX2_init_61 ?_
  refine zz_puti dX2_init_62 fX2_39 rfl (fun q h => by cases h; rfl) (hA10.is (by decide) (by decide) (by decide +kernel)) ?_
  refine zz_return dX2_init_65 rfl ?_
  exact hQ _ _ _ hA10 (fun c hc => by rw [zz_ui_ne _ _ _ hc, zz_ui_ne _ _ _ hc, zz_ui_ne _ _ _ hc]) (fun c hc => by rw [zz_uj_ne _ _ _ hc]) (by rw [zz_uj_at, pk_uLs])
theorem sp_X6_init (d : Nat) (hA : AG L M 16 D 0) (hI : FR I 16) (hJ : FJ J 16) (hQ : ∀ (M' : zz_M) (I' : zz_I) (J' : zz_J), AG L M' 16 (D) 0 → (∀ c, c ≠ 16 → I' c = I c) → (∀ c, c ≠ 16 → J' c = J c) → Q none M' I' J') : zz_D mX6_init (d + 1) [.ref 16] M I J Q := by
  refine zz_D_of rfl (Nat.le_of_ble_eq_true rfl) ?_
  try dsimp only [zz_s1, zz_s2, zz_kill, zz_ent, zz_fl, List.set_cons_zero, List.set_cons_succ, List.getElem?_cons_zero, List.getElem?_cons_succ, Option.toList_some, Option.toList_none, List.cons_append, List.nil_append, List.append_nil, List.length_cons, List.length_nil, List.replicate_succ, List.replicate_zero, Nat.reduceAdd, Nat.reduceSub]
  refine zz_aload_n rfl dX6_init_0 ?_
  refine zz_objInit dX6_init_1 oX6_3 zz_oi1 zz_oi2 (Nat.le_of_ble_eq_true rfl) ?_
  try dsimp only [zz_s1, zz_s2, zz_kill, zz_ent, zz_fl, List.set_cons_zero, List.set_cons_succ, List.getElem?_cons_zero, List.getElem?_cons_succ, Option.toList_some, Option.toList_none, List.cons_append, List.nil_append, List.append_nil, List.length_cons, List.length_nil, List.replicate_succ, List.replicate_zero, Nat.reduceAdd, Nat.reduceSub]
  refine zz_aload_n rfl dX6_init_4 ?_
  refine zz_iconst (v := 0) (by decide) dX6_init_5 ?_
  refine zz_puti dX6_init_6 fX6_9 rfl (fun q h => by cases h; rfl) (hA.is (by decide) (by decide) (by decide +kernel)) ?_
  refine zz_aload_n rfl dX6_init_9 ?_
  refine zz_iconst (v := 1) (by decide) dX6_init_10 ?_
  refine zz_puti dX6_init_11 fX6_15 rfl (fun q h => by cases h; rfl) (hA.is (by decide) (by decide) (by decide +kernel)) ?_
  refine zz_aload_n rfl dX6_init_14 ?_
  refine zz_iconst (v := 0) (by decide) dX6_init_15 ?_
  refine zz_puti dX6_init_16 fX6_18 rfl (fun q h => by cases h; rfl) (hA.is (by decide) (by decide) (by decide +kernel)) ?_
  refine zz_return dX6_init_19 rfl ?_
  exact hQ _ _ _ hA (fun c hc => by rw [zz_ui_ne _ _ _ hc, zz_ui_ne _ _ _ hc, zz_ui_ne _ _ _ hc]) (fun c hc => rfl) 
theorem sp_X5_init (d : Nat) (hA : AG L M 17 D 0) (hI : FR I 17) (hJ : FJ J 17) (hQ : ∀ (M' : zz_M) (I' : zz_I) (J' : zz_J), AG L M' 19 ((17, 1) :: (17, 0) :: D) 0 → (∀ c, c ≠ 17 → I' c = I c) → (∀ c, c ≠ 17 → J' c = J c) → Q none M' I' J') : zz_D mX5_init (d + 1) [.ref 17] M I J Q := by
  refine zz_D_of rfl (Nat.le_of_ble_eq_true rfl) ?_
  try dsimp only [zz_s1, zz_s2, zz_kill, zz_ent, zz_fl, List.set_cons_zero, List.set_cons_succ, List.getElem?_cons_zero, List.getElem?_cons_succ, Option.toList_some, Option.toList_none, List.cons_append, List.nil_append, List.append_nil, List.length_cons, List.length_nil, List.replicate_succ, List.replicate_zero, Nat.reduceAdd, Nat.reduceSub]
  refine zz_aload_n rfl dX5_init_0 ?_
  refine zz_objInit dX5_init_1 oX5_1 zz_oi1 zz_oi2 (Nat.le_of_ble_eq_true rfl) ?_
  try dsimp only [zz_s1, zz_s2, zz_kill, zz_ent, zz_fl, List.set_cons_zero, List.set_cons_succ, List.getElem?_cons_zero, List.getElem?_cons_succ, Option.toList_some, Option.toList_none, List.cons_append, List.nil_append, List.append_nil, List.length_cons, List.length_nil, List.replicate_succ, List.replicate_zero, Nat.reduceAdd, Nat.reduceSub]
  refine zz_aload_n rfl dX5_init_4 ?_
  refine zz_iconst (v := 4) (by decide) dX5_init_5 ?_
  have hA1 : AG L (zz_pu M (2, 4, fun _ => none)) 18 (D) 0 := hA.pu (by decide +kernel) (Or.inl rfl)
  refine zz_newarr (t := 2) (N := 4) dX5_init_6 rfl ac_long (Nat.le_of_ble_eq_true rfl) (by decide) (by decide) (by decide) (hA.fr hI) (hA.fj hJ) (Or.inr (Or.inl ⟨rfl, rfl⟩)) ?_
  rw [hA.1]
  try dsimp only [zz_s1, zz_s2, zz_kill, zz_ent, zz_fl, List.set_cons_zero, List.set_cons_succ, List.getElem?_cons_zero, List.getElem?_cons_succ, Option.toList_some, Option.toList_none, List.cons_append, List.nil_append, List.append_nil, List.length_cons, List.length_nil, List.replicate_succ, List.replicate_zero, Nat.reduceAdd, Nat.reduceSub]
  generalize zz_pu M (2, 4, fun _ => none) = M1 at hA1 ⊢
  have hA2 : AG L (M1.1, zz_us M1.2 17 0 (some 18)) 18 ((17, 0) :: (D)) 0 := hA1.us (by decide) (by decide) (by decide +kernel)
  refine zz_putr (q := 18) dX5_init_8 fX5_9 (fun _ _ _ _ => rfl) (fun w => ⟨rfl, rfl⟩) (fun q h => by cases h; exact ⟨rfl, rfl⟩) rfl (hA1.is (by decide) (by decide) (by decide +kernel)) ?_
  generalize (M1.1, zz_us M1.2 17 0 (some 18)) = M2 at hA2 ⊢
  refine zz_aload_n rfl dX5_init_11 ?_
  refine zz_iconst (v := 4) (by decide) dX5_init_12 ?_
  have hA3 : AG L (zz_pu M2 (2, 4, fun _ => none)) 19 ((17, 0) :: D) 0 := hA2.pu (by decide +kernel) (Or.inl rfl)
  refine zz_newarr (t := 2) (N := 4) dX5_init_13 rfl ac_long (Nat.le_of_ble_eq_true rfl) (by decide) (by decide) (by decide) (hA2.fr (FR.up (N' := 18) hI (by decide))) (hA2.fj (FJ.up (N' := 18) hJ (by decide))) (Or.inr (Or.inl ⟨rfl, rfl⟩)) ?_
  rw [hA2.1]
  try dsimp only [zz_s1, zz_s2, zz_kill, zz_ent, zz_fl, List.set_cons_zero, List.set_cons_succ, List.getElem?_cons_zero, List.getElem?_cons_succ, Option.toList_some, Option.toList_none, List.cons_append, List.nil_append, List.append_nil, List.length_cons, List.length_nil, List.replicate_succ, List.replicate_zero, Nat.reduceAdd, Nat.reduceSub]
  generalize zz_pu M2 (2, 4, fun _ => none) = M3 at hA3 ⊢
  have hA4 : AG L (M3.1, zz_us M3.2 17 1 (some 19)) 19 ((17, 1) :: ((17, 0) :: D)) 0 := hA3.us (by decide) (by decide) (by decide +kernel)
  refine zz_putr (q := 19) dX5_init_15 fX5_13 (fun _ _ _ _ => rfl) (fun w => ⟨rfl, rfl⟩) (fun q h => by cases h; exact ⟨rfl, rfl⟩) rfl (hA3.is (by decide) (by decide) (by decide +kernel)) ?_
  generalize (M3.1, zz_us M3.2 17 1 (some 19)) = M4 at hA4 ⊢
  refine zz_aload_n rfl dX5_init_18 ?_
  refine zz_iconst (v := 0) (by decide) dX5_init_19 ?_
  refine zz_puti dX5_init_20 fX5_16 rfl (fun q h => by cases h; rfl) (hA4.is (by decide) (by decide) (by decide +kernel)) ?_
  refine zz_aload_n rfl dX5_init_23 ?_
  refine zz_iconst (v := 0) (by decide) dX5_init_24 ?_
  refine zz_puti dX5_init_25 fX5_20 rfl (fun q h => by cases h; rfl) (hA4.is (by decide) (by decide) (by decide +kernel)) ?_
  refine zz_return dX5_init_28 rfl ?_
  exact hQ _ _ _ hA4 (fun c hc => by rw [zz_ui_ne _ _ _ hc, zz_ui_ne _ _ _ hc]) (fun c hc => rfl) 
theorem sp_X4_init (d : Nat) (hA : AG L M 20 D 0) (hI : FR I 20) (hJ : FJ J 20) (hQ : ∀ (M' : zz_M) (I' : zz_I) (J' : zz_J), AG L M' 23 ((20, 2) :: (20, 1) :: (20, 0) :: D) 0 → (∀ c, c ≠ 20 → I' c = I c) → (∀ c, c ≠ 20 → J' c = J c) → Q none M' I' J') : zz_D mX4_init (d + 1) [.ref 20] M I J Q := by
  refine zz_D_of rfl (Nat.le_of_ble_eq_true rfl) ?_
  try dsimp only [zz_s1, zz_s2, zz_kill, zz_ent, zz_fl, List.set_cons_zero, List.set_cons_succ, List.getElem?_cons_zero, List.getElem?_cons_succ, Option.toList_some, Option.toList_none, List.cons_append, List.nil_append, List.append_nil, List.length_cons, List.length_nil, List.replicate_succ, List.replicate_zero, Nat.reduceAdd, Nat.reduceSub]
  refine zz_aload_n rfl dX4_init_0 ?_
  refine zz_objInit dX4_init_1 oX4_5 zz_oi1 zz_oi2 (Nat.le_of_ble_eq_true rfl) ?_
  try dsimp only [zz_s1, zz_s2, zz_kill, zz_ent, zz_fl, List.set_cons_zero, List.set_cons_succ, List.getElem?_cons_zero, List.getElem?_cons_succ, Option.toList_some, Option.toList_none, List.cons_append, List.nil_append, List.append_nil, List.length_cons, List.length_nil, List.replicate_succ, List.replicate_zero, Nat.reduceAdd, Nat.reduceSub]
  refine zz_aload_n rfl dX4_init_4 ?_
  refine zz_bipush (v := 16) (by decide) dX4_init_5 ?_
  have hA1 : AG L (zz_pu M (2, 16, fun _ => none)) 21 (D) 0 := hA.pu (by decide +kernel) (Or.inl rfl)
  refine zz_newarr (t := 2) (N := 16) dX4_init_7 rfl ac_long (Nat.le_of_ble_eq_true rfl) (by decide) (by decide) (by decide) (hA.fr hI) (hA.fj hJ) (Or.inr (Or.inl ⟨rfl, rfl⟩)) ?_
  rw [hA.1]
  try dsimp only [zz_s1, zz_s2, zz_kill, zz_ent, zz_fl, List.set_cons_zero, List.set_cons_succ, List.getElem?_cons_zero, List.getElem?_cons_succ, Option.toList_some, Option.toList_none, List.cons_append, List.nil_append, List.append_nil, List.length_cons, List.length_nil, List.replicate_succ, List.replicate_zero, Nat.reduceAdd, Nat.reduceSub]
  generalize zz_pu M (2, 16, fun _ => none) = M1 at hA1 ⊢
  have hA2 : AG L (M1.1, zz_us M1.2 20 0 (some 21)) 21 ((20, 0) :: (D)) 0 := hA1.us (by decide) (by decide) (by decide +kernel)
  refine zz_putr (q := 21) dX4_init_9 fX4_11 (fun _ _ _ _ => rfl) (fun w => ⟨rfl, rfl⟩) (fun q h => by cases h; exact ⟨rfl, rfl⟩) rfl (hA1.is (by decide) (by decide) (by decide +kernel)) ?_
  generalize (M1.1, zz_us M1.2 20 0 (some 21)) = M2 at hA2 ⊢
  refine zz_aload_n rfl dX4_init_12 ?_
  refine zz_bipush (v := 16) (by decide) dX4_init_13 ?_
  have hA3 : AG L (zz_pu M2 (2, 16, fun _ => none)) 22 ((20, 0) :: D) 0 := hA2.pu (by decide +kernel) (Or.inl rfl)
  refine zz_newarr (t := 2) (N := 16) dX4_init_15 rfl ac_long (Nat.le_of_ble_eq_true rfl) (by decide) (by decide) (by decide) (hA2.fr (FR.up (N' := 21) hI (by decide))) (hA2.fj (FJ.up (N' := 21) hJ (by decide))) (Or.inr (Or.inl ⟨rfl, rfl⟩)) ?_
  rw [hA2.1]
  try dsimp only [zz_s1, zz_s2, zz_kill, zz_ent, zz_fl, List.set_cons_zero, List.set_cons_succ, List.getElem?_cons_zero, List.getElem?_cons_succ, Option.toList_some, Option.toList_none, List.cons_append, List.nil_append, List.append_nil, List.length_cons, List.length_nil, List.replicate_succ, List.replicate_zero, Nat.reduceAdd, Nat.reduceSub]
  generalize zz_pu M2 (2, 16, fun _ => none) = M3 at hA3 ⊢
  have hA4 : AG L (M3.1, zz_us M3.2 20 1 (some 22)) 22 ((20, 1) :: ((20, 0) :: D)) 0 := hA3.us (by decide) (by decide) (by decide +kernel)
  refine zz_putr (q := 22) dX4_init_17 fX4_15 (fun _ _ _ _ => rfl) (fun w => ⟨rfl, rfl⟩) (fun q h => by cases h; exact ⟨rfl, rfl⟩) rfl (hA3.is (by decide) (by decide) (by decide +kernel)) ?_
  generalize (M3.1, zz_us M3.2 20 1 (some 22)) = M4 at hA4 ⊢
  refine zz_aload_n rfl dX4_init_20 ?_
  refine zz_bipush (v := 17) (by decide) dX4_init_21 ?_
  have hA5 : AG L (zz_pu M4 (1, 17, fun _ => none)) 23 ((20, 1) :: (20, 0) :: D) 0 := hA4.pu (by decide +kernel) (Or.inl rfl)
  refine zz_newarr (t := 1) (N := 17) dX4_init_23 rfl ac_int (Nat.le_of_ble_eq_true rfl) (by decide) (by decide) (by decide) (hA4.fr (FR.up (N' := 22) (FR.up (N' := 21) hI (by decide)) (by decide))) (hA4.fj (FJ.up (N' := 22) (FJ.up (N' := 21) hJ (by decide)) (by decide))) (Or.inl ⟨rfl, rfl⟩) ?_
  rw [hA4.1]
  try dsimp only [zz_s1, zz_s2, zz_kill, zz_ent, zz_fl, List.set_cons_zero, List.set_cons_succ, List.getElem?_cons_zero, List.getElem?_cons_succ, Option.toList_some, Option.toList_none, List.cons_append, List.nil_append, List.append_nil, List.length_cons, List.length_nil, List.replicate_succ, List.replicate_zero, Nat.reduceAdd, Nat.reduceSub]
  generalize zz_pu M4 (1, 17, fun _ => none) = M5 at hA5 ⊢
  have hA6 : AG L (M5.1, zz_us M5.2 20 2 (some 23)) 23 ((20, 2) :: ((20, 1) :: (20, 0) :: D)) 0 := hA5.us (by decide) (by decide) (by decide +kernel)
  refine zz_putr (q := 23) dX4_init_25 fX4_18 (fun _ _ _ _ => rfl) (fun w => ⟨rfl, rfl⟩) (fun q h => by cases h; exact ⟨rfl, rfl⟩) rfl (hA5.is (by decide) (by decide) (by decide +kernel)) ?_
  generalize (M5.1, zz_us M5.2 20 2 (some 23)) = M6 at hA6 ⊢
  refine zz_return dX4_init_28 rfl ?_
  exact hQ _ _ _ hA6 (fun c hc => rfl) (fun c hc => rfl) 
theorem sp_X0_init (d : Nat) (hA : AG L M 24 D 0) (hI : FR I 24) (hJ : FJ J 24) (hQ : ∀ (M' : zz_M) (I' : zz_I) (J' : zz_J), AG L M' 25 ((24, 0) :: D) 0 → (∀ c, c ≠ 24 → I' c = I c) → (∀ c, c ≠ 24 → J' c = J c) → I' 24 1 = 0 → I' 24 2 = (-1) → I' 24 3 = (-1) → I' 24 4 = 0 → Q none M' I' J') : zz_D mX0_init (d + 1) [.ref 24] M I J Q := by
  refine zz_D_of rfl (Nat.le_of_ble_eq_true rfl) ?_
  try dsimp only [zz_s1, zz_s2, zz_kill, zz_ent, zz_fl, List.set_cons_zero, List.set_cons_succ, List.getElem?_cons_zero, List.getElem?_cons_succ, Option.toList_some, Option.toList_none, List.cons_append, List.nil_append, List.append_nil, List.length_cons, List.length_nil, List.replicate_succ, List.replicate_zero, Nat.reduceAdd, Nat.reduceSub]
  refine zz_aload_n rfl dX0_init_0 ?_
  refine zz_objInit dX0_init_1 oX0_3 zz_oi1 zz_oi2 (Nat.le_of_ble_eq_true rfl) ?_
  try dsimp only [zz_s1, zz_s2, zz_kill, zz_ent, zz_fl, List.set_cons_zero, List.set_cons_succ, List.getElem?_cons_zero, List.getElem?_cons_succ, Option.toList_some, Option.toList_none, List.cons_append, List.nil_append, List.append_nil, List.length_cons, List.length_nil, List.replicate_succ, List.replicate_zero, Nat.reduceAdd, Nat.reduceSub]
  refine zz_aload_n rfl dX0_init_4 ?_
  refine zz_bipush (v := 64) (by decide) dX0_init_5 ?_
  have hA1 : AG L (zz_pu M (1, 64, fun _ => none)) 25 (D) 0 := hA.pu (by decide +kernel) (Or.inl rfl)
  refine zz_newarr (t := 1) (N := 64) dX0_init_7 rfl ac_int (Nat.le_of_ble_eq_true rfl) (by decide) (by decide) (by decide) (hA.fr hI) (hA.fj hJ) (Or.inl ⟨rfl, rfl⟩) ?_
  rw [hA.1]
  try dsimp only [zz_s1, zz_s2, zz_kill, zz_ent, zz_fl, List.set_cons_zero, List.set_cons_succ, List.getElem?_cons_zero, List.getElem?_cons_succ, Option.toList_some, Option.toList_none, List.cons_append, List.nil_append, List.append_nil, List.length_cons, List.length_nil, List.replicate_succ, List.replicate_zero, Nat.reduceAdd, Nat.reduceSub]
  generalize zz_pu M (1, 64, fun _ => none) = M1 at hA1 ⊢
  have hA2 : AG L (M1.1, zz_us M1.2 24 0 (some 25)) 25 ((24, 0) :: (D)) 0 := hA1.us (by decide) (by decide) (by decide +kernel)
  refine zz_putr (q := 25) dX0_init_9 fX0_9 (fun _ _ _ _ => rfl) (fun w => ⟨rfl, rfl⟩) (fun q h => by cases h; exact ⟨rfl, rfl⟩) rfl (hA1.is (by decide) (by decide) (by decide +kernel)) ?_
  generalize (M1.1, zz_us M1.2 24 0 (some 25)) = M2 at hA2 ⊢
  refine zz_aload_n rfl dX0_init_12 ?_
  refine zz_iconst (v := 0) (by decide) dX0_init_13 ?_
  refine zz_puti dX0_init_14 fX0_15 rfl (fun q h => by cases h; rfl) (hA2.is (by decide) (by decide) (by decide +kernel)) ?_
  refine zz_aload_n rfl dX0_init_17 ?_
  refine zz_iconst (v := (-1)) (by decide) dX0_init_18 ?_
  refine zz_puti dX0_init_19 fX0_19 rfl (fun q h => by cases h; rfl) (hA2.is (by decide) (by decide) (by decide +kernel)) ?_
  refine zz_aload_n rfl dX0_init_22 ?_
  refine zz_iconst (v := (-1)) (by decide) dX0_init_23 ?_
  refine zz_puti dX0_init_24 fX0_22 rfl (fun q h => by cases h; rfl) (hA2.is (by decide) (by decide) (by decide +kernel)) ?_
  refine zz_aload_n rfl dX0_init_27 ?_
  refine zz_iconst (v := 0) (by decide) dX0_init_28 ?_
  refine zz_puti dX0_init_29 fX0_25 rfl (fun q h => by cases h; rfl) (hA2.is (by decide) (by decide) (by decide +kernel)) ?_
  refine zz_return dX0_init_32 rfl ?_
  exact hQ _ _ _ hA2 (fun c hc => by rw [zz_ui_ne _ _ _ hc, zz_ui_ne _ _ _ hc, zz_ui_ne _ _ _ hc, zz_ui_ne _ _ _ hc]) (fun c hc => rfl) (by rw [zz_ui_at, pk_un (by decide), zz_ui_at, pk_un (by decide), zz_ui_at, pk_un (by decide), zz_ui_at, pk_us]) (by rw [zz_ui_at, pk_un (by decide), zz_ui_at, pk_un (by decide), zz_ui_at, pk_us]) (by rw [zz_ui_at, pk_un (by decide), zz_ui_at, pk_us]) (by rw [zz_ui_at, pk_us])
theorem zo_kl : ∀ l, l < 8 → zo_k (LN l) = (0, 3) ∧ zo_k (LN l + 1) = (1, 24) ∧ zo_k (LN l + 2) = (1, 24) := by decide +kernel
theorem zo_rl : ∀ l, l < 8 → zo_r (LN l) 3 = some (LN l + 1) ∧ zo_r (LN l) 4 = some (LN l + 2) ∧ zo_r (LN l) 5 = some (LN l + 3) := by decide +kernel
theorem sp_X3_init (d : Nat) {l : Nat} (hl : l < 8) (hA : AG L M (LN l) D l) (hI : FR I (LN l)) (hJ : FJ J (LN l)) (hQ : ∀ (M' : zz_M) (I' : zz_I), AG L M' (LN l + 28) ((LN l, 5) :: ((List.range 25).map (fun a => (LN l + 3, a)) ++ ((LN l, 4) :: (LN l, 3) :: D))) l → (∀ c, c ≠ LN l → I' c = I c) → I' (LN l) 0 = 0 → I' (LN l) 1 = 1 → I' (LN l) 2 = 0 → Q none M' I' J) : zz_D mX3_init (d + 1) [.ref (LN l)] M I J Q := by
  have hLN : LN l = 27 + 29 * l := rfl
  have hp : 0 < LN l := by omega
  obtain ⟨k0, k1, k2⟩ := zo_kl l hl
  obtain ⟨r3, r4, r5⟩ := zo_rl l hl
  refine zz_D_of rfl (Nat.le_of_ble_eq_true rfl) ?_
  try dsimp only [zz_s1, zz_s2, zz_kill, zz_ent, zz_fl, List.set_cons_zero, List.set_cons_succ, List.getElem?_cons_zero, List.getElem?_cons_succ, Option.toList_some, Option.toList_none, List.cons_append, List.nil_append, List.append_nil, List.length_cons, List.length_nil, List.replicate_succ, List.replicate_zero, Nat.reduceAdd, Nat.reduceSub]
  refine zz_aload_n rfl dX3_init_0 ?_
  refine zz_objInit dX3_init_1 oX3_3 zz_oi1 zz_oi2 (Nat.le_of_ble_eq_true rfl) ?_
  try dsimp only [zz_s1, zz_s2, zz_kill, zz_ent, zz_fl, List.set_cons_zero, List.set_cons_succ, List.getElem?_cons_zero, List.getElem?_cons_succ, Option.toList_some, Option.toList_none, List.cons_append, List.nil_append, List.append_nil, List.length_cons, List.length_nil, List.replicate_succ, List.replicate_zero, Nat.reduceAdd, Nat.reduceSub]
  refine zz_aload_n rfl dX3_init_4 ?_
  refine zz_iconst (v := 0) (by decide) dX3_init_5 ?_
  refine zz_puti dX3_init_6 fX3_9 rfl (fun q h => by cases h; rfl) (hA.is hp (by omega) k0) ?_
  refine zz_aload_n rfl dX3_init_9 ?_
  refine zz_iconst (v := 1) (by decide) dX3_init_10 ?_
  refine zz_puti dX3_init_11 fX3_15 rfl (fun q h => by cases h; rfl) (hA.is hp (by omega) k0) ?_
  refine zz_aload_n rfl dX3_init_14 ?_
  refine zz_iconst (v := 0) (by decide) dX3_init_15 ?_
  refine zz_puti dX3_init_16 fX3_18 rfl (fun q h => by cases h; rfl) (hA.is hp (by omega) k0) ?_
  refine zz_aload_n rfl dX3_init_19 ?_
  refine zz_bipush (v := 24) (by decide) dX3_init_20 ?_
  have hA1 : AG L (zz_pu M (1, 24, fun _ => none)) (LN l + 1) (D) l := hA.pu k1 (Or.inr (by omega))
  refine zz_newarr (t := 1) (N := 24) dX3_init_22 rfl ac_int (Nat.le_of_ble_eq_true rfl) (by decide) (by decide) (by decide) (hA.fr (FR.ui (FR.ui (FR.ui hI (by omega)) (by omega)) (by omega))) (hA.fj hJ) (Or.inl ⟨rfl, rfl⟩) ?_
  rw [hA.1]
  try dsimp only [zz_s1, zz_s2, zz_kill, zz_ent, zz_fl, List.set_cons_zero, List.set_cons_succ, List.getElem?_cons_zero, List.getElem?_cons_succ, Option.toList_some, Option.toList_none, List.cons_append, List.nil_append, List.append_nil, List.length_cons, List.length_nil, List.replicate_succ, List.replicate_zero, Nat.reduceAdd, Nat.reduceSub]
  generalize zz_pu M (1, 24, fun _ => none) = M1 at hA1 ⊢
  have hA2 : AG L (M1.1, zz_us M1.2 (LN l) 3 (some (LN l + 1))) (LN l + 1) (((LN l), 3) :: (D)) l := hA1.us hp (by omega) r3
  refine zz_putr (q := (LN l + 1)) dX3_init_24 fX3_21 (fun _ _ _ _ => rfl) (fun w => ⟨rfl, rfl⟩) (fun q h => by cases h; exact ⟨rfl, rfl⟩) rfl (hA1.is hp (by omega) k0) ?_
  generalize (M1.1, zz_us M1.2 (LN l) 3 (some (LN l + 1))) = M2 at hA2 ⊢
  refine zz_aload_n rfl dX3_init_27 ?_
  refine zz_bipush (v := 24) (by decide) dX3_init_28 ?_
  have hA3 : AG L (zz_pu M2 (1, 24, fun _ => none)) (LN l + 2) (((LN l), 3) :: D) l := hA2.pu k2 (Or.inr (by omega))
  refine zz_newarr (t := 1) (N := 24) dX3_init_30 rfl ac_int (Nat.le_of_ble_eq_true rfl) (by decide) (by decide) (by decide) (hA2.fr (FR.up (N' := (LN l + 1)) (FR.ui (FR.ui (FR.ui hI (by omega)) (by omega)) (by omega)) (by omega))) (hA2.fj (FJ.up (N' := (LN l + 1)) hJ (by omega))) (Or.inl ⟨rfl, rfl⟩) ?_
  rw [hA2.1]
  try dsimp only [zz_s1, zz_s2, zz_kill, zz_ent, zz_fl, List.set_cons_zero, List.set_cons_succ, List.getElem?_cons_zero, List.getElem?_cons_succ, Option.toList_some, Option.toList_none, List.cons_append, List.nil_append, List.append_nil, List.length_cons, List.length_nil, List.replicate_succ, List.replicate_zero, Nat.reduceAdd, Nat.reduceSub]
  generalize zz_pu M2 (1, 24, fun _ => none) = M3 at hA3 ⊢
  have hA4 : AG L (M3.1, zz_us M3.2 (LN l) 4 (some (LN l + 2))) (LN l + 2) (((LN l), 4) :: (((LN l), 3) :: D)) l := hA3.us hp (by omega) r4
  refine zz_putr (q := (LN l + 2)) dX3_init_32 fX3_25 (fun _ _ _ _ => rfl) (fun w => ⟨rfl, rfl⟩) (fun q h => by cases h; exact ⟨rfl, rfl⟩) rfl (hA3.is hp (by omega) k0) ?_
  generalize (M3.1, zz_us M3.2 (LN l) 4 (some (LN l + 2))) = M4 at hA4 ⊢
  refine zz_aload_n rfl dX3_init_35 ?_
  refine zz_bipush (v := 25) (by decide) dX3_init_36 ?_
  refine zz_bipush (v := 6) (by decide) dX3_init_38 ?_
  have hA5 : AG L (zz_pm M4 25 6) (LN l + 28) ((List.range 25).map (fun a => ((LN l + 3), a)) ++ (((LN l), 4) :: ((LN l), 3) :: D)) l := hA4.pm hl rfl
  refine zz_mna (N' := 25) (K' := 6) dX3_init_40 qX3_28 ac_int (Nat.le_of_ble_eq_true rfl) (by decide) (by decide) (by decide) (by decide) (by decide) (by decide) (fun c hc => (FR.up (N' := (LN l + 2)) (FR.up (N' := (LN l + 1)) (FR.ui (FR.ui (FR.ui hI (by omega)) (by omega)) (by omega)) (by omega)) (by omega)) c (by rw [hA4.1] at hc; exact hc)) ?_
  rw [hA4.1]
  try dsimp only [zz_s1, zz_s2, zz_kill, zz_ent, zz_fl, List.set_cons_zero, List.set_cons_succ, List.getElem?_cons_zero, List.getElem?_cons_succ, Option.toList_some, Option.toList_none, List.cons_append, List.nil_append, List.append_nil, List.length_cons, List.length_nil, List.replicate_succ, List.replicate_zero, Nat.reduceAdd, Nat.reduceSub]
  generalize zz_pm M4 25 6 = M5 at hA5 ⊢
  have hA6 : AG L (M5.1, zz_us M5.2 (LN l) 5 (some (LN l + 3))) (LN l + 28) (((LN l), 5) :: ((List.range 25).map (fun a => ((LN l + 3), a)) ++ (((LN l), 4) :: ((LN l), 3) :: D))) l := hA5.us hp (by omega) r5
  refine zz_putr (q := (LN l + 3)) dX3_init_44 fX3_30 (fun _ _ _ _ => rfl) (fun w => ⟨rfl, rfl⟩) (fun q h => by cases h; exact ⟨rfl, rfl⟩) rfl (hA5.is hp (by omega) k0) ?_
  generalize (M5.1, zz_us M5.2 (LN l) 5 (some (LN l + 3))) = M6 at hA6 ⊢
  refine zz_return dX3_init_47 rfl ?_
  refine hQ _ _ hA6 (fun c hc => by rw [zz_ui_ne _ _ _ hc, zz_ui_ne _ _ _ hc, zz_ui_ne _ _ _ hc]) ?_ ?_ ?_
  · rw [zz_ui_at, pk_un (by decide), zz_ui_at, pk_un (by decide), zz_ui_at, pk_us]
  · rw [zz_ui_at, pk_un (by decide), zz_ui_at, pk_us]
  · rw [zz_ui_at, pk_us]
end Inits
