/-! ===== the two large constructors ===== -/
def IV (I : zz_I) (K : List (Nat × Nat × Int32)) : Prop := ∀ q ∈ K, I q.1 q.2.1 = q.2.2
def IL (I : zz_I) (l : Nat) : Prop := ∀ l', l' < l → I (LN l') 0 = 0 ∧ I (LN l') 1 = 1 ∧ I (LN l') 2 = 0 ∧ ∀ c, LN l' < c → c < LN l' + 29 → I c = fun _ => 0
theorem IV.up {I I' : zz_I} {K : List (Nat × Nat × Int32)} {a : Nat} (h : IV I K) (hf : ∀ c, c ≠ a → I' c = I c) (hk : ∀ q ∈ K, q.1 ≠ a) : IV I' K := fun q hq => by rw [hf _ (hk q hq)]; exact h q hq
theorem IV.cons {I : zz_I} {K : List (Nat × Nat × Int32)} {c j : Nat} {v : Int32} (h : IV I K) (e : I c j = v) : IV I ((c, j, v) :: K) := fun q hq => by
  rcases List.mem_cons.mp hq with z | z
  · rw [z]; exact e
  · exact h q z
theorem FR.fr {I I' : zz_I} {N N' a : Nat} (h : FR I N) (hf : ∀ c, c ≠ a → I' c = I c) (ha : a ≤ N') (hN : N ≤ N') : FR I' N' := fun c hc => by rw [hf c (by omega)]; exact h c (by omega)
theorem FJ.fr {J J' : zz_J} {N N' a : Nat} (h : FJ J N) (hf : ∀ c, c ≠ a → J' c = J c) (ha : a ≤ N') (hN : N ≤ N') : FJ J' N' := fun c hc => by rw [hf c (by omega)]; exact h c (by omega)
def zo_D9 : List (Nat × Nat) := [(1, 10), (1, 9), (24, 0), (1, 8), (20, 2), (20, 1), (20, 0), (1, 7), (17, 1), (17, 0), (1, 6), (1, 5), (10, 4), (10, 3), (10, 2), (10, 1), (10, 0), (1, 4), (8, 0), (1, 3), (1, 2), (1, 1), (4, 0), (1, 0), (2, 0)]
def zo_K9 : List (Nat × Nat × Int32) := [(1, 13, (-1)), (1, 12, (-1)), (1, 11, 0), (24, 4, 0), (24, 3, (-1)), (24, 2, (-1)), (24, 1, 0), (4, 3, (-1)), (4, 2, 0), (2, 1, 0)]
section Inits2
variable {L : Nat} {M : zz_M} {I : zz_I} {J : zz_J} {Q : zz_Q} {D : List (Nat × Nat)}
theorem sp_X9_init (d : Nat) (hA : AG L M 1 [] 0) (hI : FR I 1) (hJ : FJ J 1) (hQ : ∀ (M' : zz_M) (I' : zz_I) (J' : zz_J), AG L M' 258 zo_D9 8 → FR I' 258 → FJ J' 258 → IV I' zo_K9 → IL I' 8 → I' 0 = I 0 → (J' 10 5 = 0 ∧ J' 15 = fun _ => 0) → Q none M' I' J') : zz_D mX9_init (d + 2) [.ref 1] M I J Q := by
  have hV : IV I [] := fun q hq => by cases hq
  have hZ : I 0 = I 0 := rfl
  refine zz_D_of rfl (Nat.le_of_ble_eq_true rfl) ?_
  try dsimp only [zz_s1, zz_s2, zz_kill, zz_ent, zz_fl, List.set_cons_zero, List.set_cons_succ, List.getElem?_cons_zero, List.getElem?_cons_succ, Option.toList_some, Option.toList_none, List.cons_append, List.nil_append, List.append_nil, List.length_cons, List.length_nil, List.replicate_succ, List.replicate_zero, Nat.reduceAdd, Nat.reduceSub]
  refine zz_aload_n rfl dX9_init_0 ?_
  refine zz_objInit dX9_init_1 oX9_1 zz_oi1 zz_oi2 (Nat.le_of_ble_eq_true rfl) ?_
  try dsimp only [zz_s1, zz_s2, zz_kill, zz_ent, zz_fl, List.set_cons_zero, List.set_cons_succ, List.getElem?_cons_zero, List.getElem?_cons_succ, Option.toList_some, Option.toList_none, List.cons_append, List.nil_append, List.append_nil, List.length_cons, List.length_nil, List.replicate_succ, List.replicate_zero, Nat.reduceAdd, Nat.reduceSub]
  refine zz_aload_n rfl dX9_init_4 ?_
  have hA1 : AG L (zz_pu M (0, 7, fun _ => none)) 2 [] 0 := hA.pu (by decide +kernel) (Or.inl rfl)
  refine zz_new (ci := 7) dX9_init_5 rfl qX9_7 inX7 iiX7 (Nat.le_of_ble_eq_true rfl) (by decide) (hA.fr hI) (hA.fj hJ) ?_
  rw [hA.1]
  try dsimp only [zz_s1, zz_s2, zz_kill, zz_ent, zz_fl, List.set_cons_zero, List.set_cons_succ, List.getElem?_cons_zero, List.getElem?_cons_succ, Option.toList_some, Option.toList_none, List.cons_append, List.nil_append, List.append_nil, List.length_cons, List.length_nil, List.replicate_succ, List.replicate_zero, Nat.reduceAdd, Nat.reduceSub]
  generalize zz_pu M (0, 7, fun _ => none) = M1 at hA1 ⊢
  refine zz_dup rfl dX9_init_8 ?_
  refine zz_cIN dX9_init_9 lX9_9 (Nat.le_of_ble_eq_true rfl) (Nat.le_of_ble_eq_true rfl) ?_
  refine sp_X7_init d hA1 (hI.up (by decide)) (hJ.up (by decide)) (fun M2 I2 J2 hA2 f2 g2 e2_1 => ?_)
  try dsimp only [zz_s1, zz_s2, zz_kill, zz_ent, zz_fl, List.set_cons_zero, List.set_cons_succ, List.getElem?_cons_zero, List.getElem?_cons_succ, Option.toList_some, Option.toList_none, List.cons_append, List.nil_append, List.append_nil, List.length_cons, List.length_nil, List.replicate_succ, List.replicate_zero, Nat.reduceAdd, Nat.reduceSub]
  have hI2 : FR I2 3 := hI.fr f2 (by decide) (by decide)
  have hJ2 : FJ J2 3 := hJ.fr g2 (by decide) (by decide)
  have hV2 : IV I2 [(2, 1, 0)] := ((hV.up f2 (by decide)).cons e2_1)
  have hZ2 : I2 0 = I 0 := (f2 0 (by decide)).trans hZ
  have hA3 : AG L (M2.1, zz_us M2.2 1 0 (some 2)) 3 ((1, 0) :: [(2, 0)]) 0 := hA2.us (by decide) (by decide) (by decide +kernel)
  refine zz_putr (q := 2) dX9_init_12 fX9_10 (fun _ _ _ _ => rfl) (fun w => ⟨rfl, rfl⟩) (fun q h => by cases h; exact ⟨rfl, rfl⟩) rfl (hA2.is (by decide) (by decide) (by decide +kernel)) ?_
  generalize (M2.1, zz_us M2.2 1 0 (some 2)) = M3 at hA3 ⊢
  refine zz_aload_n rfl dX9_init_15 ?_
  have hA4 : AG L (zz_pu M3 (0, 8, fun _ => none)) 4 [(1, 0), (2, 0)] 0 := hA3.pu (by decide +kernel) (Or.inl rfl)
  refine zz_new (ci := 8) dX9_init_16 rfl qX9_16 inX8 iiX8 (Nat.le_of_ble_eq_true rfl) (by decide) (hA3.fr hI2) (hA3.fj hJ2) ?_
  rw [hA3.1]
  try dsimp only [zz_s1, zz_s2, zz_kill, zz_ent, zz_fl, List.set_cons_zero, List.set_cons_succ, List.getElem?_cons_zero, List.getElem?_cons_succ, Option.toList_some, Option.toList_none, List.cons_append, List.nil_append, List.append_nil, List.length_cons, List.length_nil, List.replicate_succ, List.replicate_zero, Nat.reduceAdd, Nat.reduceSub]
  generalize zz_pu M3 (0, 8, fun _ => none) = M4 at hA4 ⊢
  refine zz_dup rfl dX9_init_19 ?_
  refine zz_cIN dX9_init_20 lX9_18 (Nat.le_of_ble_eq_true rfl) (Nat.le_of_ble_eq_true rfl) ?_
  refine sp_X8_init d hA4 (hI2.up (by decide)) (hJ2.up (by decide)) (fun M5 I5 J5 hA5 f5 g5 e5_2 e5_3 => ?_)
  try dsimp only [zz_s1, zz_s2, zz_kill, zz_ent, zz_fl, List.set_cons_zero, List.set_cons_succ, List.getElem?_cons_zero, List.getElem?_cons_succ, Option.toList_some, Option.toList_none, List.cons_append, List.nil_append, List.append_nil, List.length_cons, List.length_nil, List.replicate_succ, List.replicate_zero, Nat.reduceAdd, Nat.reduceSub]
  have hI5 : FR I5 5 := hI2.fr f5 (by decide) (by decide)
  have hJ5 : FJ J5 5 := hJ2.fr g5 (by decide) (by decide)
  have hV5 : IV I5 [(4, 3, (-1)), (4, 2, 0), (2, 1, 0)] := (((hV2.up f5 (by decide)).cons e5_2).cons e5_3)
  have hZ5 : I5 0 = I 0 := (f5 0 (by decide)).trans hZ2
  have hA6 : AG L (M5.1, zz_us M5.2 1 1 (some 4)) 5 ((1, 1) :: [(4, 0), (1, 0), (2, 0)]) 0 := hA5.us (by decide) (by decide) (by decide +kernel)
  refine zz_putr (q := 4) dX9_init_23 fX9_19 (fun _ _ _ _ => rfl) (fun w => ⟨rfl, rfl⟩) (fun q h => by cases h; exact ⟨rfl, rfl⟩) rfl (hA5.is (by decide) (by decide) (by decide +kernel)) ?_
  generalize (M5.1, zz_us M5.2 1 1 (some 4)) = M6 at hA6 ⊢
  refine zz_aload_n rfl dX9_init_26 ?_
  refine zz_bipush (v := 8) (by decide) dX9_init_27 ?_
  have hA7 : AG L (zz_pu M6 (4, 8, fun _ => none)) 6 [(1, 1), (4, 0), (1, 0), (2, 0)] 0 := hA6.pu (by decide +kernel) (Or.inl rfl)
  refine zz_anew (N := 8) dX9_init_29 qX9_23 (Nat.le_of_ble_eq_true rfl) (by decide) (by decide) (by decide) ?_
  rw [hA6.1]
  try dsimp only [zz_s1, zz_s2, zz_kill, zz_ent, zz_fl, List.set_cons_zero, List.set_cons_succ, List.getElem?_cons_zero, List.getElem?_cons_succ, Option.toList_some, Option.toList_none, List.cons_append, List.nil_append, List.append_nil, List.length_cons, List.length_nil, List.replicate_succ, List.replicate_zero, Nat.reduceAdd, Nat.reduceSub]
  generalize zz_pu M6 (4, 8, fun _ => none) = M7 at hA7 ⊢
  have hA8 : AG L (M7.1, zz_us M7.2 1 2 (some 6)) 6 ((1, 2) :: [(1, 1), (4, 0), (1, 0), (2, 0)]) 0 := hA7.us (by decide) (by decide) (by decide +kernel)
  refine zz_putr (q := 6) dX9_init_32 fX9_25 (fun _ _ _ _ => rfl) (fun w => ⟨rfl, rfl⟩) (fun q h => by cases h; exact ⟨rfl, rfl⟩) rfl (hA7.is (by decide) (by decide) (by decide +kernel)) ?_
  generalize (M7.1, zz_us M7.2 1 2 (some 6)) = M8 at hA8 ⊢
  refine zz_aload_n rfl dX9_init_35 ?_
  refine zz_bipush (v := 24) (by decide) dX9_init_36 ?_
  have hA9 : AG L (zz_pu M8 (1, 24, fun _ => none)) 7 [(1, 2), (1, 1), (4, 0), (1, 0), (2, 0)] 0 := hA8.pu (by decide +kernel) (Or.inl rfl)
  refine zz_newarr (t := 1) (N := 24) dX9_init_38 rfl ac_int (Nat.le_of_ble_eq_true rfl) (by decide) (by decide) (by decide) (hA8.fr (hI5.up (N' := 6) (by decide))) (hA8.fj (hJ5.up (N' := 6) (by decide))) (Or.inl ⟨rfl, rfl⟩) ?_
  rw [hA8.1]
  try dsimp only [zz_s1, zz_s2, zz_kill, zz_ent, zz_fl, List.set_cons_zero, List.set_cons_succ, List.getElem?_cons_zero, List.getElem?_cons_succ, Option.toList_some, Option.toList_none, List.cons_append, List.nil_append, List.append_nil, List.length_cons, List.length_nil, List.replicate_succ, List.replicate_zero, Nat.reduceAdd, Nat.reduceSub]
  generalize zz_pu M8 (1, 24, fun _ => none) = M9 at hA9 ⊢
  have hA10 : AG L (M9.1, zz_us M9.2 1 3 (some 7)) 7 ((1, 3) :: [(1, 2), (1, 1), (4, 0), (1, 0), (2, 0)]) 0 := hA9.us (by decide) (by decide) (by decide +kernel)
  refine zz_putr (q := 7) dX9_init_40 fX9_29 (fun _ _ _ _ => rfl) (fun w => ⟨rfl, rfl⟩) (fun q h => by cases h; exact ⟨rfl, rfl⟩) rfl (hA9.is (by decide) (by decide) (by decide +kernel)) ?_
  generalize (M9.1, zz_us M9.2 1 3 (some 7)) = M10 at hA10 ⊢
  refine zz_aload_n rfl dX9_init_43 ?_
  have hA11 : AG L (zz_pu M10 (0, 1, fun _ => none)) 8 [(1, 3), (1, 2), (1, 1), (4, 0), (1, 0), (2, 0)] 0 := hA10.pu (by decide +kernel) (Or.inl rfl)
  refine zz_new (ci := 1) dX9_init_44 rfl qX9_33 inX1 iiX1 (Nat.le_of_ble_eq_true rfl) (by decide) (hA10.fr ((hI5.up (N' := 6) (by decide)).up (N' := 7) (by decide))) (hA10.fj ((hJ5.up (N' := 6) (by decide)).up (N' := 7) (by decide))) ?_
  rw [hA10.1]
  try dsimp only [zz_s1, zz_s2, zz_kill, zz_ent, zz_fl, List.set_cons_zero, List.set_cons_succ, List.getElem?_cons_zero, List.getElem?_cons_succ, Option.toList_some, Option.toList_none, List.cons_append, List.nil_append, List.append_nil, List.length_cons, List.length_nil, List.replicate_succ, List.replicate_zero, Nat.reduceAdd, Nat.reduceSub]
  generalize zz_pu M10 (0, 1, fun _ => none) = M11 at hA11 ⊢
  refine zz_dup rfl dX9_init_47 ?_
  refine zz_cIN dX9_init_48 lX9_35 (Nat.le_of_ble_eq_true rfl) (Nat.le_of_ble_eq_true rfl) ?_
  refine sp_X1_init d hA11 (((hI5.up (N' := 6) (by decide)).up (N' := 7) (by decide)).up (by decide)) (((hJ5.up (N' := 6) (by decide)).up (N' := 7) (by decide)).up (by decide)) (fun M12 I12 J12 hA12 f12 g12  => ?_)
  try dsimp only [zz_s1, zz_s2, zz_kill, zz_ent, zz_fl, List.set_cons_zero, List.set_cons_succ, List.getElem?_cons_zero, List.getElem?_cons_succ, Option.toList_some, Option.toList_none, List.cons_append, List.nil_append, List.append_nil, List.length_cons, List.length_nil, List.replicate_succ, List.replicate_zero, Nat.reduceAdd, Nat.reduceSub]
  have hI12 : FR I12 9 := ((hI5.up (N' := 6) (by decide)).up (N' := 7) (by decide)).fr f12 (by decide) (by decide)
  have hJ12 : FJ J12 9 := ((hJ5.up (N' := 6) (by decide)).up (N' := 7) (by decide)).fr g12 (by decide) (by decide)
  have hV12 : IV I12 [(4, 3, (-1)), (4, 2, 0), (2, 1, 0)] := (hV5.up f12 (by decide))
  have hZ12 : I12 0 = I 0 := (f12 0 (by decide)).trans hZ5
  have hA13 : AG L (M12.1, zz_us M12.2 1 4 (some 8)) 9 ((1, 4) :: [(8, 0), (1, 3), (1, 2), (1, 1), (4, 0), (1, 0), (2, 0)]) 0 := hA12.us (by decide) (by decide) (by decide +kernel)
  refine zz_putr (q := 8) dX9_init_51 fX9_36 (fun _ _ _ _ => rfl) (fun w => ⟨rfl, rfl⟩) (fun q h => by cases h; exact ⟨rfl, rfl⟩) rfl (hA12.is (by decide) (by decide) (by decide +kernel)) ?_
  generalize (M12.1, zz_us M12.2 1 4 (some 8)) = M13 at hA13 ⊢
  refine zz_aload_n rfl dX9_init_54 ?_
  have hA14 : AG L (zz_pu M13 (0, 2, fun _ => none)) 10 [(1, 4), (8, 0), (1, 3), (1, 2), (1, 1), (4, 0), (1, 0), (2, 0)] 0 := hA13.pu (by decide +kernel) (Or.inl rfl)
  refine zz_new (ci := 2) dX9_init_55 rfl qX9_40 inX2 iiX2 (Nat.le_of_ble_eq_true rfl) (by decide) (hA13.fr hI12) (hA13.fj hJ12) ?_
  rw [hA13.1]
  try dsimp only [zz_s1, zz_s2, zz_kill, zz_ent, zz_fl, List.set_cons_zero, List.set_cons_succ, List.getElem?_cons_zero, List.getElem?_cons_succ, Option.toList_some, Option.toList_none, List.cons_append, List.nil_append, List.append_nil, List.length_cons, List.length_nil, List.replicate_succ, List.replicate_zero, Nat.reduceAdd, Nat.reduceSub]
  generalize zz_pu M13 (0, 2, fun _ => none) = M14 at hA14 ⊢
  refine zz_dup rfl dX9_init_58 ?_
  refine zz_cIN dX9_init_59 lX9_42 (Nat.le_of_ble_eq_true rfl) (Nat.le_of_ble_eq_true rfl) ?_
  refine sp_X2_init d hA14 (hI12.up (by decide)) (hJ12.up (by decide)) (fun M15 I15 J15 hA15 f15 g15  ej15 => ?_)
  try dsimp only [zz_s1, zz_s2, zz_kill, zz_ent, zz_fl, List.set_cons_zero, List.set_cons_succ, List.getElem?_cons_zero, List.getElem?_cons_succ, Option.toList_some, Option.toList_none, List.cons_append, List.nil_append, List.append_nil, List.length_cons, List.length_nil, List.replicate_succ, List.replicate_zero, Nat.reduceAdd, Nat.reduceSub]
  have hI15 : FR I15 15 := hI12.fr f15 (by decide) (by decide)
  have hJ15 : FJ J15 15 := hJ12.fr g15 (by decide) (by decide)
  have hV15 : IV I15 [(4, 3, (-1)), (4, 2, 0), (2, 1, 0)] := (hV12.up f15 (by decide))
  have hK15 : J15 10 5 = 0 ∧ J15 15 = fun _ => 0 := ⟨ej15, by rw [g15 15 (by decide)]; exact hJ12 15 (by decide)⟩
  have hZ15 : I15 0 = I 0 := (f15 0 (by decide)).trans hZ12
  have hA16 : AG L (M15.1, zz_us M15.2 1 5 (some 10)) 15 ((1, 5) :: [(10, 4), (10, 3), (10, 2), (10, 1), (10, 0), (1, 4), (8, 0), (1, 3), (1, 2), (1, 1), (4, 0), (1, 0), (2, 0)]) 0 := hA15.us (by decide) (by decide) (by decide +kernel)
  refine zz_putr (q := 10) dX9_init_62 fX9_43 (fun _ _ _ _ => rfl) (fun w => ⟨rfl, rfl⟩) (fun q h => by cases h; exact ⟨rfl, rfl⟩) rfl (hA15.is (by decide) (by decide) (by decide +kernel)) ?_
  generalize (M15.1, zz_us M15.2 1 5 (some 10)) = M16 at hA16 ⊢
  refine zz_aload_n rfl dX9_init_65 ?_
  have hA17 : AG L (zz_pu M16 (0, 6, fun _ => none)) 16 [(1, 5), (10, 4), (10, 3), (10, 2), (10, 1), (10, 0), (1, 4), (8, 0), (1, 3), (1, 2), (1, 1), (4, 0), (1, 0), (2, 0)] 0 := hA16.pu (by decide +kernel) (Or.inl rfl)
  refine zz_new (ci := 6) dX9_init_66 rfl qX9_47 inX6 iiX6 (Nat.le_of_ble_eq_true rfl) (by decide) (hA16.fr hI15) (hA16.fj hJ15) ?_
  rw [hA16.1]
  try dsimp only [zz_s1, zz_s2, zz_kill, zz_ent, zz_fl, List.set_cons_zero, List.set_cons_succ, List.getElem?_cons_zero, List.getElem?_cons_succ, Option.toList_some, Option.toList_none, List.cons_append, List.nil_append, List.append_nil, List.length_cons, List.length_nil, List.replicate_succ, List.replicate_zero, Nat.reduceAdd, Nat.reduceSub]
  generalize zz_pu M16 (0, 6, fun _ => none) = M17 at hA17 ⊢
  refine zz_dup rfl dX9_init_69 ?_
  refine zz_cIN dX9_init_70 lX9_49 (Nat.le_of_ble_eq_true rfl) (Nat.le_of_ble_eq_true rfl) ?_
  refine sp_X6_init d hA17 (hI15.up (by decide)) (hJ15.up (by decide)) (fun M18 I18 J18 hA18 f18 g18  => ?_)
  try dsimp only [zz_s1, zz_s2, zz_kill, zz_ent, zz_fl, List.set_cons_zero, List.set_cons_succ, List.getElem?_cons_zero, List.getElem?_cons_succ, Option.toList_some, Option.toList_none, List.cons_append, List.nil_append, List.append_nil, List.length_cons, List.length_nil, List.replicate_succ, List.replicate_zero, Nat.reduceAdd, Nat.reduceSub]
  have hI18 : FR I18 16 := hI15.fr f18 (by decide) (by decide)
  have hJ18 : FJ J18 16 := hJ15.fr g18 (by decide) (by decide)
  have hV18 : IV I18 [(4, 3, (-1)), (4, 2, 0), (2, 1, 0)] := (hV15.up f18 (by decide))
  have hK18 : J18 10 5 = 0 ∧ J18 15 = fun _ => 0 := by rw [g18 10 (by decide), g18 15 (by decide)]; exact hK15
  have hZ18 : I18 0 = I 0 := (f18 0 (by decide)).trans hZ15
  have hA19 : AG L (M18.1, zz_us M18.2 1 6 (some 16)) 16 ((1, 6) :: [(1, 5), (10, 4), (10, 3), (10, 2), (10, 1), (10, 0), (1, 4), (8, 0), (1, 3), (1, 2), (1, 1), (4, 0), (1, 0), (2, 0)]) 0 := hA18.us (by decide) (by decide) (by decide +kernel)
  refine zz_putr (q := 16) dX9_init_73 fX9_50 (fun _ _ _ _ => rfl) (fun w => ⟨rfl, rfl⟩) (fun q h => by cases h; exact ⟨rfl, rfl⟩) rfl (hA18.is (by decide) (by decide) (by decide +kernel)) ?_
  generalize (M18.1, zz_us M18.2 1 6 (some 16)) = M19 at hA19 ⊢
  refine zz_aload_n rfl dX9_init_76 ?_
  have hA20 : AG L (zz_pu M19 (0, 5, fun _ => none)) 17 [(1, 6), (1, 5), (10, 4), (10, 3), (10, 2), (10, 1), (10, 0), (1, 4), (8, 0), (1, 3), (1, 2), (1, 1), (4, 0), (1, 0), (2, 0)] 0 := hA19.pu (by decide +kernel) (Or.inl rfl)
  refine zz_new (ci := 5) dX9_init_77 rfl qX9_54 inX5 iiX5 (Nat.le_of_ble_eq_true rfl) (by decide) (hA19.fr hI18) (hA19.fj hJ18) ?_
  rw [hA19.1]
  try dsimp only [zz_s1, zz_s2, zz_kill, zz_ent, zz_fl, List.set_cons_zero, List.set_cons_succ, List.getElem?_cons_zero, List.getElem?_cons_succ, Option.toList_some, Option.toList_none, List.cons_append, List.nil_append, List.append_nil, List.length_cons, List.length_nil, List.replicate_succ, List.replicate_zero, Nat.reduceAdd, Nat.reduceSub]
  generalize zz_pu M19 (0, 5, fun _ => none) = M20 at hA20 ⊢
  refine zz_dup rfl dX9_init_80 ?_
  refine zz_cIN dX9_init_81 lX9_56 (Nat.le_of_ble_eq_true rfl) (Nat.le_of_ble_eq_true rfl) ?_
  refine sp_X5_init d hA20 (hI18.up (by decide)) (hJ18.up (by decide)) (fun M21 I21 J21 hA21 f21 g21  => ?_)
  try dsimp only [zz_s1, zz_s2, zz_kill, zz_ent, zz_fl, List.set_cons_zero, List.set_cons_succ, List.getElem?_cons_zero, List.getElem?_cons_succ, Option.toList_some, Option.toList_none, List.cons_append, List.nil_append, List.append_nil, List.length_cons, List.length_nil, List.replicate_succ, List.replicate_zero, Nat.reduceAdd, Nat.reduceSub]
  have hI21 : FR I21 19 := hI18.fr f21 (by decide) (by decide)
  have hJ21 : FJ J21 19 := hJ18.fr g21 (by decide) (by decide)
  have hV21 : IV I21 [(4, 3, (-1)), (4, 2, 0), (2, 1, 0)] := (hV18.up f21 (by decide))
  have hK21 : J21 10 5 = 0 ∧ J21 15 = fun _ => 0 := by rw [g21 10 (by decide), g21 15 (by decide)]; exact hK18
  have hZ21 : I21 0 = I 0 := (f21 0 (by decide)).trans hZ18
  have hA22 : AG L (M21.1, zz_us M21.2 1 7 (some 17)) 19 ((1, 7) :: [(17, 1), (17, 0), (1, 6), (1, 5), (10, 4), (10, 3), (10, 2), (10, 1), (10, 0), (1, 4), (8, 0), (1, 3), (1, 2), (1, 1), (4, 0), (1, 0), (2, 0)]) 0 := hA21.us (by decide) (by decide) (by decide +kernel)
  refine zz_putr (q := 17) dX9_init_84 fX9_57 (fun _ _ _ _ => rfl) (fun w => ⟨rfl, rfl⟩) (fun q h => by cases h; exact ⟨rfl, rfl⟩) rfl (hA21.is (by decide) (by decide) (by decide +kernel)) ?_
  generalize (M21.1, zz_us M21.2 1 7 (some 17)) = M22 at hA22 ⊢
  refine zz_aload_n rfl dX9_init_87 ?_
  have hA23 : AG L (zz_pu M22 (0, 4, fun _ => none)) 20 [(1, 7), (17, 1), (17, 0), (1, 6), (1, 5), (10, 4), (10, 3), (10, 2), (10, 1), (10, 0), (1, 4), (8, 0), (1, 3), (1, 2), (1, 1), (4, 0), (1, 0), (2, 0)] 0 := hA22.pu (by decide +kernel) (Or.inl rfl)
  refine zz_new (ci := 4) dX9_init_88 rfl qX9_61 inX4 iiX4 (Nat.le_of_ble_eq_true rfl) (by decide) (hA22.fr hI21) (hA22.fj hJ21) ?_
  rw [hA22.1]
  try dsimp only [zz_s1, zz_s2, zz_kill, zz_ent, zz_fl, List.set_cons_zero, List.set_cons_succ, List.getElem?_cons_zero, List.getElem?_cons_succ, Option.toList_some, Option.toList_none, List.cons_append, List.nil_append, List.append_nil, List.length_cons, List.length_nil, List.replicate_succ, List.replicate_zero, Nat.reduceAdd, Nat.reduceSub]
  generalize zz_pu M22 (0, 4, fun _ => none) = M23 at hA23 ⊢
  refine zz_dup rfl dX9_init_91 ?_
  refine zz_cIN dX9_init_92 lX9_63 (Nat.le_of_ble_eq_true rfl) (Nat.le_of_ble_eq_true rfl) ?_
  refine sp_X4_init d hA23 (hI21.up (by decide)) (hJ21.up (by decide)) (fun M24 I24 J24 hA24 f24 g24  => ?_)
  try dsimp only [zz_s1, zz_s2, zz_kill, zz_ent, zz_fl, List.set_cons_zero, List.set_cons_succ, List.getElem?_cons_zero, List.getElem?_cons_succ, Option.toList_some, Option.toList_none, List.cons_append, List.nil_append, List.append_nil, List.length_cons, List.length_nil, List.replicate_succ, List.replicate_zero, Nat.reduceAdd, Nat.reduceSub]
  have hI24 : FR I24 23 := hI21.fr f24 (by decide) (by decide)
  have hJ24 : FJ J24 23 := hJ21.fr g24 (by decide) (by decide)
  have hV24 : IV I24 [(4, 3, (-1)), (4, 2, 0), (2, 1, 0)] := (hV21.up f24 (by decide))
  have hK24 : J24 10 5 = 0 ∧ J24 15 = fun _ => 0 := by rw [g24 10 (by decide), g24 15 (by decide)]; exact hK21
  have hZ24 : I24 0 = I 0 := (f24 0 (by decide)).trans hZ21
  have hA25 : AG L (M24.1, zz_us M24.2 1 8 (some 20)) 23 ((1, 8) :: [(20, 2), (20, 1), (20, 0), (1, 7), (17, 1), (17, 0), (1, 6), (1, 5), (10, 4), (10, 3), (10, 2), (10, 1), (10, 0), (1, 4), (8, 0), (1, 3), (1, 2), (1, 1), (4, 0), (1, 0), (2, 0)]) 0 := hA24.us (by decide) (by decide) (by decide +kernel)
  refine zz_putr (q := 20) dX9_init_95 fX9_64 (fun _ _ _ _ => rfl) (fun w => ⟨rfl, rfl⟩) (fun q h => by cases h; exact ⟨rfl, rfl⟩) rfl (hA24.is (by decide) (by decide) (by decide +kernel)) ?_
  generalize (M24.1, zz_us M24.2 1 8 (some 20)) = M25 at hA25 ⊢
  refine zz_aload_n rfl dX9_init_98 ?_
  have hA26 : AG L (zz_pu M25 (0, 0, fun _ => none)) 24 [(1, 8), (20, 2), (20, 1), (20, 0), (1, 7), (17, 1), (17, 0), (1, 6), (1, 5), (10, 4), (10, 3), (10, 2), (10, 1), (10, 0), (1, 4), (8, 0), (1, 3), (1, 2), (1, 1), (4, 0), (1, 0), (2, 0)] 0 := hA25.pu (by decide +kernel) (Or.inl rfl)
  refine zz_new (ci := 0) dX9_init_99 rfl qX9_68 inX0 iiX0 (Nat.le_of_ble_eq_true rfl) (by decide) (hA25.fr hI24) (hA25.fj hJ24) ?_
  rw [hA25.1]
  try dsimp only [zz_s1, zz_s2, zz_kill, zz_ent, zz_fl, List.set_cons_zero, List.set_cons_succ, List.getElem?_cons_zero, List.getElem?_cons_succ, Option.toList_some, Option.toList_none, List.cons_append, List.nil_append, List.append_nil, List.length_cons, List.length_nil, List.replicate_succ, List.replicate_zero, Nat.reduceAdd, Nat.reduceSub]
  generalize zz_pu M25 (0, 0, fun _ => none) = M26 at hA26 ⊢
  refine zz_dup rfl dX9_init_102 ?_
  refine zz_cIN dX9_init_103 lX9_70 (Nat.le_of_ble_eq_true rfl) (Nat.le_of_ble_eq_true rfl) ?_
  refine sp_X0_init d hA26 (hI24.up (by decide)) (hJ24.up (by decide)) (fun M27 I27 J27 hA27 f27 g27 e27_1 e27_2 e27_3 e27_4 => ?_)
  try dsimp only [zz_s1, zz_s2, zz_kill, zz_ent, zz_fl, List.set_cons_zero, List.set_cons_succ, List.getElem?_cons_zero, List.getElem?_cons_succ, Option.toList_some, Option.toList_none, List.cons_append, List.nil_append, List.append_nil, List.length_cons, List.length_nil, List.replicate_succ, List.replicate_zero, Nat.reduceAdd, Nat.reduceSub]
  have hI27 : FR I27 25 := hI24.fr f27 (by decide) (by decide)
  have hJ27 : FJ J27 25 := hJ24.fr g27 (by decide) (by decide)
  have hV27 : IV I27 [(24, 4, 0), (24, 3, (-1)), (24, 2, (-1)), (24, 1, 0), (4, 3, (-1)), (4, 2, 0), (2, 1, 0)] := (((((hV24.up f27 (by decide)).cons e27_1).cons e27_2).cons e27_3).cons e27_4)
  have hK27 : J27 10 5 = 0 ∧ J27 15 = fun _ => 0 := by rw [g27 10 (by decide), g27 15 (by decide)]; exact hK24
  have hZ27 : I27 0 = I 0 := (f27 0 (by decide)).trans hZ24
  have hA28 : AG L (M27.1, zz_us M27.2 1 9 (some 24)) 25 ((1, 9) :: [(24, 0), (1, 8), (20, 2), (20, 1), (20, 0), (1, 7), (17, 1), (17, 0), (1, 6), (1, 5), (10, 4), (10, 3), (10, 2), (10, 1), (10, 0), (1, 4), (8, 0), (1, 3), (1, 2), (1, 1), (4, 0), (1, 0), (2, 0)]) 0 := hA27.us (by decide) (by decide) (by decide +kernel)
  refine zz_putr (q := 24) dX9_init_106 fX9_71 (fun _ _ _ _ => rfl) (fun w => ⟨rfl, rfl⟩) (fun q h => by cases h; exact ⟨rfl, rfl⟩) rfl (hA27.is (by decide) (by decide) (by decide +kernel)) ?_
  generalize (M27.1, zz_us M27.2 1 9 (some 24)) = M28 at hA28 ⊢
  refine zz_aload_n rfl dX9_init_109 ?_
  refine zz_bipush (v := 24) (by decide) dX9_init_110 ?_
  have hA29 : AG L (zz_pu M28 (1, 24, fun _ => none)) 26 [(1, 9), (24, 0), (1, 8), (20, 2), (20, 1), (20, 0), (1, 7), (17, 1), (17, 0), (1, 6), (1, 5), (10, 4), (10, 3), (10, 2), (10, 1), (10, 0), (1, 4), (8, 0), (1, 3), (1, 2), (1, 1), (4, 0), (1, 0), (2, 0)] 0 := hA28.pu (by decide +kernel) (Or.inl rfl)
  refine zz_newarr (t := 1) (N := 24) dX9_init_112 rfl ac_int (Nat.le_of_ble_eq_true rfl) (by decide) (by decide) (by decide) (hA28.fr hI27) (hA28.fj hJ27) (Or.inl ⟨rfl, rfl⟩) ?_
  rw [hA28.1]
  try dsimp only [zz_s1, zz_s2, zz_kill, zz_ent, zz_fl, List.set_cons_zero, List.set_cons_succ, List.getElem?_cons_zero, List.getElem?_cons_succ, Option.toList_some, Option.toList_none, List.cons_append, List.nil_append, List.append_nil, List.length_cons, List.length_nil, List.replicate_succ, List.replicate_zero, Nat.reduceAdd, Nat.reduceSub]
  generalize zz_pu M28 (1, 24, fun _ => none) = M29 at hA29 ⊢
  have hA30 : AG L (M29.1, zz_us M29.2 1 10 (some 26)) 26 ((1, 10) :: [(1, 9), (24, 0), (1, 8), (20, 2), (20, 1), (20, 0), (1, 7), (17, 1), (17, 0), (1, 6), (1, 5), (10, 4), (10, 3), (10, 2), (10, 1), (10, 0), (1, 4), (8, 0), (1, 3), (1, 2), (1, 1), (4, 0), (1, 0), (2, 0)]) 0 := hA29.us (by decide) (by decide) (by decide +kernel)
  refine zz_putr (q := 26) dX9_init_114 fX9_75 (fun _ _ _ _ => rfl) (fun w => ⟨rfl, rfl⟩) (fun q h => by cases h; exact ⟨rfl, rfl⟩) rfl (hA29.is (by decide) (by decide) (by decide +kernel)) ?_
  generalize (M29.1, zz_us M29.2 1 10 (some 26)) = M30 at hA30 ⊢
  refine zz_aload_n rfl dX9_init_117 ?_
  refine zz_iconst (v := 0) (by decide) dX9_init_118 ?_
  refine zz_puti dX9_init_119 fX9_78 rfl (fun q h => by cases h; rfl) (hA30.is (by decide) (by decide) (by decide +kernel)) ?_
  refine zz_aload_n rfl dX9_init_122 ?_
  refine zz_iconst (v := (-1)) (by decide) dX9_init_123 ?_
  refine zz_puti dX9_init_124 fX9_82 rfl (fun q h => by cases h; rfl) (hA30.is (by decide) (by decide) (by decide +kernel)) ?_
  refine zz_aload_n rfl dX9_init_127 ?_
  refine zz_iconst (v := (-1)) (by decide) dX9_init_128 ?_
  refine zz_puti dX9_init_129 fX9_85 rfl (fun q h => by cases h; rfl) (hA30.is (by decide) (by decide) (by decide +kernel)) ?_
  refine zz_iconst (v := 0) (by decide) dX9_init_132 ?_
  refine zz_istore_n dX9_init_133 (by decide) ?_
  try dsimp only [zz_s1, zz_s2, zz_kill, zz_ent, zz_fl, List.set_cons_zero, List.set_cons_succ, List.getElem?_cons_zero, List.getElem?_cons_succ, Option.toList_some, Option.toList_none, List.cons_append, List.nil_append, List.append_nil, List.length_cons, List.length_nil, List.replicate_succ, List.replicate_zero, Nat.reduceAdd, Nat.reduceSub]
  generalize hIE : zz_ui (zz_ui (zz_ui I27 1 11 0) 1 12 (-1)) 1 13 (-1) = IE
  have fE : ∀ c, c ≠ 1 → IE c = I27 c := fun c hc => by rw [← hIE, zz_ui_ne _ _ _ hc, zz_ui_ne _ _ _ hc, zz_ui_ne _ _ _ hc]
  have hVE : IV IE zo_K9 := (((hV27.up fE (by decide)).cons (by rw [← hIE, zz_ui_at, pk_un (by decide), zz_ui_at, pk_un (by decide), zz_ui_at, pk_us])).cons (by rw [← hIE, zz_ui_at, pk_un (by decide), zz_ui_at, pk_us])).cons (by rw [← hIE, zz_ui_at, pk_us])
  have hIE2 : FR IE 26 := (hI27.up (N' := 26) (by decide)).fr fE (by decide) (by decide)
  have hZE : IE 0 = I 0 := (fE 0 (by decide)).trans hZ27
  have hAE : AG L M30 26 zo_D9 0 := hA30
  have loop : ∀ (q l k N : Nat) (Mx : zz_M) (Ix : zz_I) (Jx : zz_J), l + q = 8 → k = 25 + 29 * l → N + 1 = LN l → AG L Mx N zo_D9 l → FR Ix N → FJ Jx N → IV Ix zo_K9 → IL Ix l → Ix 0 = I 0 → (Jx 10 5 = 0 ∧ Jx 15 = fun _ => 0) → zz_G mX9_init (d + 2) k 134 [some (.ref 1), some (.int (nI l))] [] Mx Ix Jx Q := by
    intro q
    induction q with
    | zero =>
      intro l k N Mx Ix Jx hl hk hN h1 h2 h3 h4 h5 h6 h7
      have e : l = 8 := by omega
      subst e
      have e2 : N = 258 := by unfold LN at hN; omega
      subst e2
      refine zz_iload_n rfl dX9_init_134 ?_
      refine zz_bipush (v := 8) (by decide) dX9_init_135 ?_
      try dsimp only [zz_s1, zz_s2, zz_kill, zz_ent, zz_fl, List.set_cons_zero, List.set_cons_succ, List.getElem?_cons_zero, List.getElem?_cons_succ, Option.toList_some, Option.toList_none, List.cons_append, List.nil_append, List.append_nil, List.length_cons, List.length_nil, List.replicate_succ, List.replicate_zero, Nat.reduceAdd, Nat.reduceSub]
      refine zz_icmp_ge (tgt := 159) dX9_init_137 (by decide) (fun q1 => ?_) (fun q1 => ?_)
      · refine zz_return dX9_init_159 rfl ?_
        exact hQ Mx Ix Jx h1 h2 h3 h4 h5 h6 h7
      · exact absurd (Int32.le_refl _) q1
    | succ q ih =>
      intro l k N Mx Ix Jx hl hk hN h1 h2 h3 h4 h5 h6 h7
      have hLN : LN l = 27 + 29 * l := rfl
      have hl8 : l < 8 := by omega
      obtain ⟨k0, k1, k2⟩ := zo_kl l hl8
      refine zz_iload_n rfl dX9_init_134 ?_
      refine zz_bipush (v := 8) (by decide) dX9_init_135 ?_
      try dsimp only [zz_s1, zz_s2, zz_kill, zz_ent, zz_fl, List.set_cons_zero, List.set_cons_succ, List.getElem?_cons_zero, List.getElem?_cons_succ, Option.toList_some, Option.toList_none, List.cons_append, List.nil_append, List.append_nil, List.length_cons, List.length_nil, List.replicate_succ, List.replicate_zero, Nat.reduceAdd, Nat.reduceSub]
      refine zz_icmp_ge (tgt := 159) dX9_init_137 (by decide) (fun q1 => ?_) (fun q1 => ?_)
      · exact absurd q1 (nI_ge (b := 8) (by omega) (by decide))
      refine zz_aload_n rfl dX9_init_140 ?_
      refine zz_getr (q := 6) dX9_init_141 fX9_25 (fun _ _ _ _ => rfl) (h1.is (by decide) (by omega) (by decide +kernel)) ((h1.2.2.1 (1, 2) (by decide)).2.trans (by decide +kernel)) ?_
      refine zz_iload_n rfl dX9_init_144 ?_
      have hA1 : AG L (zz_pu Mx (0, 3, fun _ => none)) (N + 1) zo_D9 l := h1.pu (by rw [hN]; exact k0) (Or.inr (by omega))
      refine zz_new (ci := 3) dX9_init_145 rfl qX9_23 inX3 iiX3 (by show k + 1 ≤ 257; omega) (by decide) (h1.fr h2) (h1.fj h3) ?_
      rw [h1.1, hN]
      rw [hN] at hA1
      generalize zz_pu Mx (0, 3, fun _ => none) = M1 at hA1 ⊢
      refine zz_dup rfl dX9_init_148 ?_
      refine zz_cIN dX9_init_149 lX9_88 (Nat.le_of_ble_eq_true rfl) (by show k + 1 + 28 ≤ 257; omega) ?_
      refine sp_X3_init d hl8 hA1 (h2.up (by omega)) (h3.up (by omega)) (fun M2 I2 a1 a2 a3 a4 a5 => ?_)
      try dsimp only [zz_s1, zz_s2, zz_kill, zz_ent, zz_fl, List.set_cons_zero, List.set_cons_succ, List.getElem?_cons_zero, List.getElem?_cons_succ, Option.toList_some, Option.toList_none, List.cons_append, List.nil_append, List.append_nil, List.length_cons, List.length_nil, List.replicate_succ, List.replicate_zero, Nat.reduceAdd, Nat.reduceSub]
      refine zz_aast (ci := 3) dX9_init_152 (a1.is (a := 6) (by decide) (by omega) (by decide +kernel)) (vp_in_nI hl8 (by decide)) (a1.is (a := LN l) (by omega) (by omega) k0) ?_
      rw [nI_clamp (show l < 2 ^ 31 by omega)]
      have hr6 : ∀ l, l < 8 → zo_r 6 l = some (LN l) := by decide +kernel
      have b1 := (AG.us (a := 6) (f := l) (q := LN l) a1 (by decide) (by omega) (hr6 l hl8)).line hl8 rfl (by simp) (by simp) (by simp) (by simp) (fun a ha => by simp [ha])
      generalize (M2.1, zz_us M2.2 6 l (some (LN l))) = M3 at b1 ⊢
      refine zz_iinc dX9_init_153 rfl (congrArg (HAdd.hAdd _) (show Int32.ofInt 1 = 1 by decide)) (by decide) ?_
      refine zz_goto (tgt := 134) dX9_init_156 (by decide) ?_
      try dsimp only [zz_s1, zz_s2, zz_kill, zz_ent, zz_fl, List.set_cons_zero, List.set_cons_succ, List.getElem?_cons_zero, List.getElem?_cons_succ, Option.toList_some, Option.toList_none, List.cons_append, List.nil_append, List.append_nil, List.length_cons, List.length_nil, List.replicate_succ, List.replicate_zero, Nat.reduceAdd, Nat.reduceSub]
      rw [nI_1]
      refine ih (l + 1) _ (LN l + 28) M3 I2 Jx (by omega) (by show k + 1 + 28 = 25 + 29 * (l + 1); omega) (by unfold LN; omega) (b1.sub (fun q hq => by simp [hq])) (h2.fr a2 (by omega) (by omega)) (h3.up (by omega)) (h4.up a2 (fun q hq => ?_)) (fun l' hl' => ?_) ((a2 0 (by omega)).trans h6) h7
      · have : ∀ q ∈ zo_K9, q.1 ≤ 26 := by decide +kernel
        have := this q hq
        omega
      · have hL' : LN l' = 27 + 29 * l' := rfl
        by_cases e : l' = l
        · subst e
          exact ⟨a3, a4, a5, fun c c1 c2 => by rw [a2 c (by omega)]; exact h2 c (by omega)⟩
        · obtain ⟨y1, y2, y3, y4⟩ := h5 l' (by omega)
          rw [a2 (LN l') (by omega)]
          exact ⟨y1, y2, y3, fun c c1 c2 => by rw [a2 c (by omega)]; exact y4 c c1 c2⟩
  exact loop 8 0 _ 26 M30 IE J27 rfl rfl rfl hAE hIE2 (hJ27.up (N' := 26) (by decide)) hVE (fun l' hl' => by omega) hZE hK27
theorem sp_X10_init (d : Nat) (hA : AG L M 259 D 8) (hI : FR I 258) (hJ : FJ J 259) (hQ : ∀ (M' : zz_M) (I' : zz_I), AG L M' 275 ((259, 27) :: (259, 26) :: (259, 22) :: (259, 20) :: (259, 19) :: (259, 14) :: (259, 12) :: (259, 11) :: (259, 10) :: (259, 6) :: (259, 5) :: (259, 4) :: (259, 3) :: (259, 2) :: (259, 1) :: (259, 0) :: D) 8 → (∀ c, c ≠ 259 → c ≠ 260 → I' c = I c) → IV I' [(259, 30, (-1)), (259, 29, (-1)), (259, 21, 0), (259, 18, 0), (259, 17, (-1)), (259, 16, (-1)), (259, 15, (-1)), (259, 9, (-1)), (259, 8, 0), (259, 7, 0)] → (∀ l, l < 8 → I' 260 l = 1) → Q none M' I' J) : zz_D mX10_init (d + 1) [.ref 259] M I J Q := by
  have hz : I 259 = fun _ => 0 := hI 259 (by decide)
  have hI : FR I 259 := hI.up (by decide)
  refine zz_D_of rfl (Nat.le_of_ble_eq_true rfl) ?_
  try dsimp only [zz_s1, zz_s2, zz_kill, zz_ent, zz_fl, List.set_cons_zero, List.set_cons_succ, List.getElem?_cons_zero, List.getElem?_cons_succ, Option.toList_some, Option.toList_none, List.cons_append, List.nil_append, List.append_nil, List.length_cons, List.length_nil, List.replicate_succ, List.replicate_zero, Nat.reduceAdd, Nat.reduceSub]
  refine zz_aload_n rfl dX10_init_0 ?_
  refine zz_objInit dX10_init_1 oX10_1 zz_oi1 zz_oi2 (Nat.le_of_ble_eq_true rfl) ?_
  try dsimp only [zz_s1, zz_s2, zz_kill, zz_ent, zz_fl, List.set_cons_zero, List.set_cons_succ, List.getElem?_cons_zero, List.getElem?_cons_succ, Option.toList_some, Option.toList_none, List.cons_append, List.nil_append, List.append_nil, List.length_cons, List.length_nil, List.replicate_succ, List.replicate_zero, Nat.reduceAdd, Nat.reduceSub]
  refine zz_aload_n rfl dX10_init_4 ?_
  refine zz_bipush (v := 8) (by decide) dX10_init_5 ?_
  have hA1 : AG L (zz_pu M (1, 8, fun _ => none)) 260 (D) 8 := hA.pu (by decide +kernel) (Or.inr (by decide))
  refine zz_newarr (t := 1) (N := 8) dX10_init_7 rfl ac_int (Nat.le_of_ble_eq_true rfl) (by decide) (by decide) (by decide) (hA.fr hI) (hA.fj hJ) (Or.inl ⟨rfl, rfl⟩) ?_
  rw [hA.1]
  try dsimp only [zz_s1, zz_s2, zz_kill, zz_ent, zz_fl, List.set_cons_zero, List.set_cons_succ, List.getElem?_cons_zero, List.getElem?_cons_succ, Option.toList_some, Option.toList_none, List.cons_append, List.nil_append, List.append_nil, List.length_cons, List.length_nil, List.replicate_succ, List.replicate_zero, Nat.reduceAdd, Nat.reduceSub]
  generalize zz_pu M (1, 8, fun _ => none) = M1 at hA1 ⊢
  have hA2 : AG L (M1.1, zz_us M1.2 259 0 (some 260)) 260 ((259, 0) :: (D)) 8 := hA1.us (by decide) (by decide) (by decide +kernel)
  refine zz_putr (q := 260) dX10_init_9 fX10_9 (fun _ _ _ _ => rfl) (fun w => ⟨rfl, rfl⟩) (fun q h => by cases h; exact ⟨rfl, rfl⟩) rfl (hA1.is (by decide) (by decide) (by decide +kernel)) ?_
  generalize (M1.1, zz_us M1.2 259 0 (some 260)) = M2 at hA2 ⊢
  refine zz_aload_n rfl dX10_init_12 ?_
  refine zz_bipush (v := 8) (by decide) dX10_init_13 ?_
  have hA3 : AG L (zz_pu M2 (1, 8, fun _ => none)) 261 ((259, 0) :: D) 8 := hA2.pu (by decide +kernel) (Or.inr (by decide))
  refine zz_newarr (t := 1) (N := 8) dX10_init_15 rfl ac_int (Nat.le_of_ble_eq_true rfl) (by decide) (by decide) (by decide) (hA2.fr (FR.up (N' := 260) hI (by decide))) (hA2.fj (FJ.up (N' := 260) hJ (by decide))) (Or.inl ⟨rfl, rfl⟩) ?_
  rw [hA2.1]
  try dsimp only [zz_s1, zz_s2, zz_kill, zz_ent, zz_fl, List.set_cons_zero, List.set_cons_succ, List.getElem?_cons_zero, List.getElem?_cons_succ, Option.toList_some, Option.toList_none, List.cons_append, List.nil_append, List.append_nil, List.length_cons, List.length_nil, List.replicate_succ, List.replicate_zero, Nat.reduceAdd, Nat.reduceSub]
  generalize zz_pu M2 (1, 8, fun _ => none) = M3 at hA3 ⊢
  have hA4 : AG L (M3.1, zz_us M3.2 259 1 (some 261)) 261 ((259, 1) :: ((259, 0) :: D)) 8 := hA3.us (by decide) (by decide) (by decide +kernel)
  refine zz_putr (q := 261) dX10_init_17 fX10_13 (fun _ _ _ _ => rfl) (fun w => ⟨rfl, rfl⟩) (fun q h => by cases h; exact ⟨rfl, rfl⟩) rfl (hA3.is (by decide) (by decide) (by decide +kernel)) ?_
  generalize (M3.1, zz_us M3.2 259 1 (some 261)) = M4 at hA4 ⊢
  refine zz_aload_n rfl dX10_init_20 ?_
  refine zz_sipush (v := 192) (by decide) dX10_init_21 ?_
  have hA5 : AG L (zz_pu M4 (1, 192, fun _ => none)) 262 ((259, 1) :: (259, 0) :: D) 8 := hA4.pu (by decide +kernel) (Or.inr (by decide))
  refine zz_newarr (t := 1) (N := 192) dX10_init_24 rfl ac_int (Nat.le_of_ble_eq_true rfl) (by decide) (by decide) (by decide) (hA4.fr (FR.up (N' := 261) (FR.up (N' := 260) hI (by decide)) (by decide))) (hA4.fj (FJ.up (N' := 261) (FJ.up (N' := 260) hJ (by decide)) (by decide))) (Or.inl ⟨rfl, rfl⟩) ?_
  rw [hA4.1]
  try dsimp only [zz_s1, zz_s2, zz_kill, zz_ent, zz_fl, List.set_cons_zero, List.set_cons_succ, List.getElem?_cons_zero, List.getElem?_cons_succ, Option.toList_some, Option.toList_none, List.cons_append, List.nil_append, List.append_nil, List.length_cons, List.length_nil, List.replicate_succ, List.replicate_zero, Nat.reduceAdd, Nat.reduceSub]
  generalize zz_pu M4 (1, 192, fun _ => none) = M5 at hA5 ⊢
  have hA6 : AG L (M5.1, zz_us M5.2 259 2 (some 262)) 262 ((259, 2) :: ((259, 1) :: (259, 0) :: D)) 8 := hA5.us (by decide) (by decide) (by decide +kernel)
  refine zz_putr (q := 262) dX10_init_26 fX10_16 (fun _ _ _ _ => rfl) (fun w => ⟨rfl, rfl⟩) (fun q h => by cases h; exact ⟨rfl, rfl⟩) rfl (hA5.is (by decide) (by decide) (by decide +kernel)) ?_
  generalize (M5.1, zz_us M5.2 259 2 (some 262)) = M6 at hA6 ⊢
  refine zz_aload_n rfl dX10_init_29 ?_
  refine zz_sipush (v := 192) (by decide) dX10_init_30 ?_
  have hA7 : AG L (zz_pu M6 (1, 192, fun _ => none)) 263 ((259, 2) :: (259, 1) :: (259, 0) :: D) 8 := hA6.pu (by decide +kernel) (Or.inr (by decide))
  refine zz_newarr (t := 1) (N := 192) dX10_init_33 rfl ac_int (Nat.le_of_ble_eq_true rfl) (by decide) (by decide) (by decide) (hA6.fr (FR.up (N' := 262) (FR.up (N' := 261) (FR.up (N' := 260) hI (by decide)) (by decide)) (by decide))) (hA6.fj (FJ.up (N' := 262) (FJ.up (N' := 261) (FJ.up (N' := 260) hJ (by decide)) (by decide)) (by decide))) (Or.inl ⟨rfl, rfl⟩) ?_
  rw [hA6.1]
  try dsimp only [zz_s1, zz_s2, zz_kill, zz_ent, zz_fl, List.set_cons_zero, List.set_cons_succ, List.getElem?_cons_zero, List.getElem?_cons_succ, Option.toList_some, Option.toList_none, List.cons_append, List.nil_append, List.append_nil, List.length_cons, List.length_nil, List.replicate_succ, List.replicate_zero, Nat.reduceAdd, Nat.reduceSub]
  generalize zz_pu M6 (1, 192, fun _ => none) = M7 at hA7 ⊢
  have hA8 : AG L (M7.1, zz_us M7.2 259 3 (some 263)) 263 ((259, 3) :: ((259, 2) :: (259, 1) :: (259, 0) :: D)) 8 := hA7.us (by decide) (by decide) (by decide +kernel)
  refine zz_putr (q := 263) dX10_init_35 fX10_19 (fun _ _ _ _ => rfl) (fun w => ⟨rfl, rfl⟩) (fun q h => by cases h; exact ⟨rfl, rfl⟩) rfl (hA7.is (by decide) (by decide) (by decide +kernel)) ?_
  generalize (M7.1, zz_us M7.2 259 3 (some 263)) = M8 at hA8 ⊢
  refine zz_aload_n rfl dX10_init_38 ?_
  refine zz_sipush (v := 1200) (by decide) dX10_init_39 ?_
  have hA9 : AG L (zz_pu M8 (1, 1200, fun _ => none)) 264 ((259, 3) :: (259, 2) :: (259, 1) :: (259, 0) :: D) 8 := hA8.pu (by decide +kernel) (Or.inr (by decide))
  refine zz_newarr (t := 1) (N := 1200) dX10_init_42 rfl ac_int (Nat.le_of_ble_eq_true rfl) (by decide) (by decide) (by decide) (hA8.fr (FR.up (N' := 263) (FR.up (N' := 262) (FR.up (N' := 261) (FR.up (N' := 260) hI (by decide)) (by decide)) (by decide)) (by decide))) (hA8.fj (FJ.up (N' := 263) (FJ.up (N' := 262) (FJ.up (N' := 261) (FJ.up (N' := 260) hJ (by decide)) (by decide)) (by decide)) (by decide))) (Or.inl ⟨rfl, rfl⟩) ?_
  rw [hA8.1]
  try dsimp only [zz_s1, zz_s2, zz_kill, zz_ent, zz_fl, List.set_cons_zero, List.set_cons_succ, List.getElem?_cons_zero, List.getElem?_cons_succ, Option.toList_some, Option.toList_none, List.cons_append, List.nil_append, List.append_nil, List.length_cons, List.length_nil, List.replicate_succ, List.replicate_zero, Nat.reduceAdd, Nat.reduceSub]
  generalize zz_pu M8 (1, 1200, fun _ => none) = M9 at hA9 ⊢
  have hA10 : AG L (M9.1, zz_us M9.2 259 4 (some 264)) 264 ((259, 4) :: ((259, 3) :: (259, 2) :: (259, 1) :: (259, 0) :: D)) 8 := hA9.us (by decide) (by decide) (by decide +kernel)
  refine zz_putr (q := 264) dX10_init_44 fX10_22 (fun _ _ _ _ => rfl) (fun w => ⟨rfl, rfl⟩) (fun q h => by cases h; exact ⟨rfl, rfl⟩) rfl (hA9.is (by decide) (by decide) (by decide +kernel)) ?_
  generalize (M9.1, zz_us M9.2 259 4 (some 264)) = M10 at hA10 ⊢
  refine zz_aload_n rfl dX10_init_47 ?_
  refine zz_bipush (v := 8) (by decide) dX10_init_48 ?_
  have hA11 : AG L (zz_pu M10 (1, 8, fun _ => none)) 265 ((259, 4) :: (259, 3) :: (259, 2) :: (259, 1) :: (259, 0) :: D) 8 := hA10.pu (by decide +kernel) (Or.inr (by decide))
  refine zz_newarr (t := 1) (N := 8) dX10_init_50 rfl ac_int (Nat.le_of_ble_eq_true rfl) (by decide) (by decide) (by decide) (hA10.fr (FR.up (N' := 264) (FR.up (N' := 263) (FR.up (N' := 262) (FR.up (N' := 261) (FR.up (N' := 260) hI (by decide)) (by decide)) (by decide)) (by decide)) (by decide))) (hA10.fj (FJ.up (N' := 264) (FJ.up (N' := 263) (FJ.up (N' := 262) (FJ.up (N' := 261) (FJ.up (N' := 260) hJ (by decide)) (by decide)) (by decide)) (by decide)) (by decide))) (Or.inl ⟨rfl, rfl⟩) ?_
  rw [hA10.1]
  try dsimp only [zz_s1, zz_s2, zz_kill, zz_ent, zz_fl, List.set_cons_zero, List.set_cons_succ, List.getElem?_cons_zero, List.getElem?_cons_succ, Option.toList_some, Option.toList_none, List.cons_append, List.nil_append, List.append_nil, List.length_cons, List.length_nil, List.replicate_succ, List.replicate_zero, Nat.reduceAdd, Nat.reduceSub]
  generalize zz_pu M10 (1, 8, fun _ => none) = M11 at hA11 ⊢
  have hA12 : AG L (M11.1, zz_us M11.2 259 5 (some 265)) 265 ((259, 5) :: ((259, 4) :: (259, 3) :: (259, 2) :: (259, 1) :: (259, 0) :: D)) 8 := hA11.us (by decide) (by decide) (by decide +kernel)
  refine zz_putr (q := 265) dX10_init_52 fX10_25 (fun _ _ _ _ => rfl) (fun w => ⟨rfl, rfl⟩) (fun q h => by cases h; exact ⟨rfl, rfl⟩) rfl (hA11.is (by decide) (by decide) (by decide +kernel)) ?_
  generalize (M11.1, zz_us M11.2 259 5 (some 265)) = M12 at hA12 ⊢
  refine zz_aload_n rfl dX10_init_55 ?_
  refine zz_sipush (v := 600) (by decide) dX10_init_56 ?_
  have hA13 : AG L (zz_pu M12 (3, 600, fun _ => none)) 266 ((259, 5) :: (259, 4) :: (259, 3) :: (259, 2) :: (259, 1) :: (259, 0) :: D) 8 := hA12.pu (by decide +kernel) (Or.inr (by decide))
  refine zz_newarr (t := 3) (N := 600) dX10_init_59 rfl ac_byte (Nat.le_of_ble_eq_true rfl) (by decide) (by decide) (by decide) (hA12.fr (FR.up (N' := 265) (FR.up (N' := 264) (FR.up (N' := 263) (FR.up (N' := 262) (FR.up (N' := 261) (FR.up (N' := 260) hI (by decide)) (by decide)) (by decide)) (by decide)) (by decide)) (by decide))) (hA12.fj (FJ.up (N' := 265) (FJ.up (N' := 264) (FJ.up (N' := 263) (FJ.up (N' := 262) (FJ.up (N' := 261) (FJ.up (N' := 260) hJ (by decide)) (by decide)) (by decide)) (by decide)) (by decide)) (by decide))) (Or.inr (Or.inr ⟨rfl, rfl⟩)) ?_
  rw [hA12.1]
  try dsimp only [zz_s1, zz_s2, zz_kill, zz_ent, zz_fl, List.set_cons_zero, List.set_cons_succ, List.getElem?_cons_zero, List.getElem?_cons_succ, Option.toList_some, Option.toList_none, List.cons_append, List.nil_append, List.append_nil, List.length_cons, List.length_nil, List.replicate_succ, List.replicate_zero, Nat.reduceAdd, Nat.reduceSub]
  generalize zz_pu M12 (3, 600, fun _ => none) = M13 at hA13 ⊢
  have hA14 : AG L (M13.1, zz_us M13.2 259 6 (some 266)) 266 ((259, 6) :: ((259, 5) :: (259, 4) :: (259, 3) :: (259, 2) :: (259, 1) :: (259, 0) :: D)) 8 := hA13.us (by decide) (by decide) (by decide +kernel)
  refine zz_putr (q := 266) dX10_init_61 fX10_28 (fun _ _ _ _ => rfl) (fun w => ⟨rfl, rfl⟩) (fun q h => by cases h; exact ⟨rfl, rfl⟩) rfl (hA13.is (by decide) (by decide) (by decide +kernel)) ?_
  generalize (M13.1, zz_us M13.2 259 6 (some 266)) = M14 at hA14 ⊢
  refine zz_aload_n rfl dX10_init_64 ?_
  refine zz_iconst (v := (-1)) (by decide) dX10_init_65 ?_
  refine zz_puti dX10_init_66 fX10_32 rfl (fun q h => by cases h; rfl) (hA14.is (by decide) (by decide) (by decide +kernel)) ?_
  refine zz_aload_n rfl dX10_init_69 ?_
  refine zz_bipush (v := 24) (by decide) dX10_init_70 ?_
  have hA15 : AG L (zz_pu M14 (1, 24, fun _ => none)) 267 ((259, 6) :: (259, 5) :: (259, 4) :: (259, 3) :: (259, 2) :: (259, 1) :: (259, 0) :: D) 8 := hA14.pu (by decide +kernel) (Or.inr (by decide))
  refine zz_newarr (t := 1) (N := 24) dX10_init_72 rfl ac_int (Nat.le_of_ble_eq_true rfl) (by decide) (by decide) (by decide) (hA14.fr (FR.ui (FR.up (N' := 266) (FR.up (N' := 265) (FR.up (N' := 264) (FR.up (N' := 263) (FR.up (N' := 262) (FR.up (N' := 261) (FR.up (N' := 260) hI (by decide)) (by decide)) (by decide)) (by decide)) (by decide)) (by decide)) (by decide)) (by decide))) (hA14.fj (FJ.up (N' := 266) (FJ.up (N' := 265) (FJ.up (N' := 264) (FJ.up (N' := 263) (FJ.up (N' := 262) (FJ.up (N' := 261) (FJ.up (N' := 260) hJ (by decide)) (by decide)) (by decide)) (by decide)) (by decide)) (by decide)) (by decide))) (Or.inl ⟨rfl, rfl⟩) ?_
  rw [hA14.1]
  try dsimp only [zz_s1, zz_s2, zz_kill, zz_ent, zz_fl, List.set_cons_zero, List.set_cons_succ, List.getElem?_cons_zero, List.getElem?_cons_succ, Option.toList_some, Option.toList_none, List.cons_append, List.nil_append, List.append_nil, List.length_cons, List.length_nil, List.replicate_succ, List.replicate_zero, Nat.reduceAdd, Nat.reduceSub]
  generalize zz_pu M14 (1, 24, fun _ => none) = M15 at hA15 ⊢
  have hA16 : AG L (M15.1, zz_us M15.2 259 10 (some 267)) 267 ((259, 10) :: ((259, 6) :: (259, 5) :: (259, 4) :: (259, 3) :: (259, 2) :: (259, 1) :: (259, 0) :: D)) 8 := hA15.us (by decide) (by decide) (by decide +kernel)
  refine zz_putr (q := 267) dX10_init_74 fX10_36 (fun _ _ _ _ => rfl) (fun w => ⟨rfl, rfl⟩) (fun q h => by cases h; exact ⟨rfl, rfl⟩) rfl (hA15.is (by decide) (by decide) (by decide +kernel)) ?_
  generalize (M15.1, zz_us M15.2 259 10 (some 267)) = M16 at hA16 ⊢
  refine zz_aload_n rfl dX10_init_77 ?_
  refine zz_bipush (v := 24) (by decide) dX10_init_78 ?_
  have hA17 : AG L (zz_pu M16 (1, 24, fun _ => none)) 268 ((259, 10) :: (259, 6) :: (259, 5) :: (259, 4) :: (259, 3) :: (259, 2) :: (259, 1) :: (259, 0) :: D) 8 := hA16.pu (by decide +kernel) (Or.inr (by decide))
  refine zz_newarr (t := 1) (N := 24) dX10_init_80 rfl ac_int (Nat.le_of_ble_eq_true rfl) (by decide) (by decide) (by decide) (hA16.fr (FR.up (N' := 267) (FR.ui (FR.up (N' := 266) (FR.up (N' := 265) (FR.up (N' := 264) (FR.up (N' := 263) (FR.up (N' := 262) (FR.up (N' := 261) (FR.up (N' := 260) hI (by decide)) (by decide)) (by decide)) (by decide)) (by decide)) (by decide)) (by decide)) (by decide)) (by decide))) (hA16.fj (FJ.up (N' := 267) (FJ.up (N' := 266) (FJ.up (N' := 265) (FJ.up (N' := 264) (FJ.up (N' := 263) (FJ.up (N' := 262) (FJ.up (N' := 261) (FJ.up (N' := 260) hJ (by decide)) (by decide)) (by decide)) (by decide)) (by decide)) (by decide)) (by decide)) (by decide))) (Or.inl ⟨rfl, rfl⟩) ?_
  rw [hA16.1]
  try dsimp only [zz_s1, zz_s2, zz_kill, zz_ent, zz_fl, List.set_cons_zero, List.set_cons_succ, List.getElem?_cons_zero, List.getElem?_cons_succ, Option.toList_some, Option.toList_none, List.cons_append, List.nil_append, List.append_nil, List.length_cons, List.length_nil, List.replicate_succ, List.replicate_zero, Nat.reduceAdd, Nat.reduceSub]
  generalize zz_pu M16 (1, 24, fun _ => none) = M17 at hA17 ⊢
  have hA18 : AG L (M17.1, zz_us M17.2 259 11 (some 268)) 268 ((259, 11) :: ((259, 10) :: (259, 6) :: (259, 5) :: (259, 4) :: (259, 3) :: (259, 2) :: (259, 1) :: (259, 0) :: D)) 8 := hA17.us (by decide) (by decide) (by decide +kernel)
  refine zz_putr (q := 268) dX10_init_82 fX10_39 (fun _ _ _ _ => rfl) (fun w => ⟨rfl, rfl⟩) (fun q h => by cases h; exact ⟨rfl, rfl⟩) rfl (hA17.is (by decide) (by decide) (by decide +kernel)) ?_
  generalize (M17.1, zz_us M17.2 259 11 (some 268)) = M18 at hA18 ⊢
  refine zz_aload_n rfl dX10_init_85 ?_
  refine zz_bipush (v := 64) (by decide) dX10_init_86 ?_
  have hA19 : AG L (zz_pu M18 (2, 64, fun _ => none)) 269 ((259, 11) :: (259, 10) :: (259, 6) :: (259, 5) :: (259, 4) :: (259, 3) :: (259, 2) :: (259, 1) :: (259, 0) :: D) 8 := hA18.pu (by decide +kernel) (Or.inr (by decide))
  refine zz_newarr (t := 2) (N := 64) dX10_init_88 rfl ac_long (Nat.le_of_ble_eq_true rfl) (by decide) (by decide) (by decide) (hA18.fr (FR.up (N' := 268) (FR.up (N' := 267) (FR.ui (FR.up (N' := 266) (FR.up (N' := 265) (FR.up (N' := 264) (FR.up (N' := 263) (FR.up (N' := 262) (FR.up (N' := 261) (FR.up (N' := 260) hI (by decide)) (by decide)) (by decide)) (by decide)) (by decide)) (by decide)) (by decide)) (by decide)) (by decide)) (by decide))) (hA18.fj (FJ.up (N' := 268) (FJ.up (N' := 267) (FJ.up (N' := 266) (FJ.up (N' := 265) (FJ.up (N' := 264) (FJ.up (N' := 263) (FJ.up (N' := 262) (FJ.up (N' := 261) (FJ.up (N' := 260) hJ (by decide)) (by decide)) (by decide)) (by decide)) (by decide)) (by decide)) (by decide)) (by decide)) (by decide))) (Or.inr (Or.inl ⟨rfl, rfl⟩)) ?_
  rw [hA18.1]
  try dsimp only [zz_s1, zz_s2, zz_kill, zz_ent, zz_fl, List.set_cons_zero, List.set_cons_succ, List.getElem?_cons_zero, List.getElem?_cons_succ, Option.toList_some, Option.toList_none, List.cons_append, List.nil_append, List.append_nil, List.length_cons, List.length_nil, List.replicate_succ, List.replicate_zero, Nat.reduceAdd, Nat.reduceSub]
  generalize zz_pu M18 (2, 64, fun _ => none) = M19 at hA19 ⊢
  have hA20 : AG L (M19.1, zz_us M19.2 259 12 (some 269)) 269 ((259, 12) :: ((259, 11) :: (259, 10) :: (259, 6) :: (259, 5) :: (259, 4) :: (259, 3) :: (259, 2) :: (259, 1) :: (259, 0) :: D)) 8 := hA19.us (by decide) (by decide) (by decide +kernel)
  refine zz_putr (q := 269) dX10_init_90 fX10_42 (fun _ _ _ _ => rfl) (fun w => ⟨rfl, rfl⟩) (fun q h => by cases h; exact ⟨rfl, rfl⟩) rfl (hA19.is (by decide) (by decide) (by decide +kernel)) ?_
  generalize (M19.1, zz_us M19.2 259 12 (some 269)) = M20 at hA20 ⊢
  refine zz_aload_n rfl dX10_init_93 ?_
  refine zz_bipush (v := 64) (by decide) dX10_init_94 ?_
  have hA21 : AG L (zz_pu M20 (1, 64, fun _ => none)) 270 ((259, 12) :: (259, 11) :: (259, 10) :: (259, 6) :: (259, 5) :: (259, 4) :: (259, 3) :: (259, 2) :: (259, 1) :: (259, 0) :: D) 8 := hA20.pu (by decide +kernel) (Or.inr (by decide))
  refine zz_newarr (t := 1) (N := 64) dX10_init_96 rfl ac_int (Nat.le_of_ble_eq_true rfl) (by decide) (by decide) (by decide) (hA20.fr (FR.up (N' := 269) (FR.up (N' := 268) (FR.up (N' := 267) (FR.ui (FR.up (N' := 266) (FR.up (N' := 265) (FR.up (N' := 264) (FR.up (N' := 263) (FR.up (N' := 262) (FR.up (N' := 261) (FR.up (N' := 260) hI (by decide)) (by decide)) (by decide)) (by decide)) (by decide)) (by decide)) (by decide)) (by decide)) (by decide)) (by decide)) (by decide))) (hA20.fj (FJ.up (N' := 269) (FJ.up (N' := 268) (FJ.up (N' := 267) (FJ.up (N' := 266) (FJ.up (N' := 265) (FJ.up (N' := 264) (FJ.up (N' := 263) (FJ.up (N' := 262) (FJ.up (N' := 261) (FJ.up (N' := 260) hJ (by decide)) (by decide)) (by decide)) (by decide)) (by decide)) (by decide)) (by decide)) (by decide)) (by decide)) (by decide))) (Or.inl ⟨rfl, rfl⟩) ?_
  rw [hA20.1]
  try dsimp only [zz_s1, zz_s2, zz_kill, zz_ent, zz_fl, List.set_cons_zero, List.set_cons_succ, List.getElem?_cons_zero, List.getElem?_cons_succ, Option.toList_some, Option.toList_none, List.cons_append, List.nil_append, List.append_nil, List.length_cons, List.length_nil, List.replicate_succ, List.replicate_zero, Nat.reduceAdd, Nat.reduceSub]
  generalize zz_pu M20 (1, 64, fun _ => none) = M21 at hA21 ⊢
  have hA22 : AG L (M21.1, zz_us M21.2 259 14 (some 270)) 270 ((259, 14) :: ((259, 12) :: (259, 11) :: (259, 10) :: (259, 6) :: (259, 5) :: (259, 4) :: (259, 3) :: (259, 2) :: (259, 1) :: (259, 0) :: D)) 8 := hA21.us (by decide) (by decide) (by decide +kernel)
  refine zz_putr (q := 270) dX10_init_98 fX10_46 (fun _ _ _ _ => rfl) (fun w => ⟨rfl, rfl⟩) (fun q h => by cases h; exact ⟨rfl, rfl⟩) rfl (hA21.is (by decide) (by decide) (by decide +kernel)) ?_
  generalize (M21.1, zz_us M21.2 259 14 (some 270)) = M22 at hA22 ⊢
  refine zz_aload_n rfl dX10_init_101 ?_
  refine zz_iconst (v := (-1)) (by decide) dX10_init_102 ?_
  refine zz_puti dX10_init_103 fX10_49 rfl (fun q h => by cases h; rfl) (hA22.is (by decide) (by decide) (by decide +kernel)) ?_
  refine zz_aload_n rfl dX10_init_106 ?_
  refine zz_iconst (v := (-1)) (by decide) dX10_init_107 ?_
  refine zz_puti dX10_init_108 fX10_52 rfl (fun q h => by cases h; rfl) (hA22.is (by decide) (by decide) (by decide +kernel)) ?_
  refine zz_aload_n rfl dX10_init_111 ?_
  refine zz_iconst (v := (-1)) (by decide) dX10_init_112 ?_
  refine zz_puti dX10_init_113 fX10_55 rfl (fun q h => by cases h; rfl) (hA22.is (by decide) (by decide) (by decide +kernel)) ?_
  refine zz_aload_n rfl dX10_init_116 ?_
  refine zz_bipush (v := 24) (by decide) dX10_init_117 ?_
  have hA23 : AG L (zz_pu M22 (1, 24, fun _ => none)) 271 ((259, 14) :: (259, 12) :: (259, 11) :: (259, 10) :: (259, 6) :: (259, 5) :: (259, 4) :: (259, 3) :: (259, 2) :: (259, 1) :: (259, 0) :: D) 8 := hA22.pu (by decide +kernel) (Or.inr (by decide))
  refine zz_newarr (t := 1) (N := 24) dX10_init_119 rfl ac_int (Nat.le_of_ble_eq_true rfl) (by decide) (by decide) (by decide) (hA22.fr (FR.ui (FR.ui (FR.ui (FR.up (N' := 270) (FR.up (N' := 269) (FR.up (N' := 268) (FR.up (N' := 267) (FR.ui (FR.up (N' := 266) (FR.up (N' := 265) (FR.up (N' := 264) (FR.up (N' := 263) (FR.up (N' := 262) (FR.up (N' := 261) (FR.up (N' := 260) hI (by decide)) (by decide)) (by decide)) (by decide)) (by decide)) (by decide)) (by decide)) (by decide)) (by decide)) (by decide)) (by decide)) (by decide)) (by decide)) (by decide)) (by decide))) (hA22.fj (FJ.up (N' := 270) (FJ.up (N' := 269) (FJ.up (N' := 268) (FJ.up (N' := 267) (FJ.up (N' := 266) (FJ.up (N' := 265) (FJ.up (N' := 264) (FJ.up (N' := 263) (FJ.up (N' := 262) (FJ.up (N' := 261) (FJ.up (N' := 260) hJ (by decide)) (by decide)) (by decide)) (by decide)) (by decide)) (by decide)) (by decide)) (by decide)) (by decide)) (by decide)) (by decide))) (Or.inl ⟨rfl, rfl⟩) ?_
  rw [hA22.1]
  try dsimp only [zz_s1, zz_s2, zz_kill, zz_ent, zz_fl, List.set_cons_zero, List.set_cons_succ, List.getElem?_cons_zero, List.getElem?_cons_succ, Option.toList_some, Option.toList_none, List.cons_append, List.nil_append, List.append_nil, List.length_cons, List.length_nil, List.replicate_succ, List.replicate_zero, Nat.reduceAdd, Nat.reduceSub]
  generalize zz_pu M22 (1, 24, fun _ => none) = M23 at hA23 ⊢
  have hA24 : AG L (M23.1, zz_us M23.2 259 19 (some 271)) 271 ((259, 19) :: ((259, 14) :: (259, 12) :: (259, 11) :: (259, 10) :: (259, 6) :: (259, 5) :: (259, 4) :: (259, 3) :: (259, 2) :: (259, 1) :: (259, 0) :: D)) 8 := hA23.us (by decide) (by decide) (by decide +kernel)
  refine zz_putr (q := 271) dX10_init_121 fX10_58 (fun _ _ _ _ => rfl) (fun w => ⟨rfl, rfl⟩) (fun q h => by cases h; exact ⟨rfl, rfl⟩) rfl (hA23.is (by decide) (by decide) (by decide +kernel)) ?_
  generalize (M23.1, zz_us M23.2 259 19 (some 271)) = M24 at hA24 ⊢
  refine zz_aload_n rfl dX10_init_124 ?_
  refine zz_bipush (v := 24) (by decide) dX10_init_125 ?_
  have hA25 : AG L (zz_pu M24 (1, 24, fun _ => none)) 272 ((259, 19) :: (259, 14) :: (259, 12) :: (259, 11) :: (259, 10) :: (259, 6) :: (259, 5) :: (259, 4) :: (259, 3) :: (259, 2) :: (259, 1) :: (259, 0) :: D) 8 := hA24.pu (by decide +kernel) (Or.inr (by decide))
  refine zz_newarr (t := 1) (N := 24) dX10_init_127 rfl ac_int (Nat.le_of_ble_eq_true rfl) (by decide) (by decide) (by decide) (hA24.fr (FR.up (N' := 271) (FR.ui (FR.ui (FR.ui (FR.up (N' := 270) (FR.up (N' := 269) (FR.up (N' := 268) (FR.up (N' := 267) (FR.ui (FR.up (N' := 266) (FR.up (N' := 265) (FR.up (N' := 264) (FR.up (N' := 263) (FR.up (N' := 262) (FR.up (N' := 261) (FR.up (N' := 260) hI (by decide)) (by decide)) (by decide)) (by decide)) (by decide)) (by decide)) (by decide)) (by decide)) (by decide)) (by decide)) (by decide)) (by decide)) (by decide)) (by decide)) (by decide)) (by decide))) (hA24.fj (FJ.up (N' := 271) (FJ.up (N' := 270) (FJ.up (N' := 269) (FJ.up (N' := 268) (FJ.up (N' := 267) (FJ.up (N' := 266) (FJ.up (N' := 265) (FJ.up (N' := 264) (FJ.up (N' := 263) (FJ.up (N' := 262) (FJ.up (N' := 261) (FJ.up (N' := 260) hJ (by decide)) (by decide)) (by decide)) (by decide)) (by decide)) (by decide)) (by decide)) (by decide)) (by decide)) (by decide)) (by decide)) (by decide))) (Or.inl ⟨rfl, rfl⟩) ?_
  rw [hA24.1]
  try dsimp only [zz_s1, zz_s2, zz_kill, zz_ent, zz_fl, List.set_cons_zero, List.set_cons_succ, List.getElem?_cons_zero, List.getElem?_cons_succ, Option.toList_some, Option.toList_none, List.cons_append, List.nil_append, List.append_nil, List.length_cons, List.length_nil, List.replicate_succ, List.replicate_zero, Nat.reduceAdd, Nat.reduceSub]
  generalize zz_pu M24 (1, 24, fun _ => none) = M25 at hA25 ⊢
  have hA26 : AG L (M25.1, zz_us M25.2 259 20 (some 272)) 272 ((259, 20) :: ((259, 19) :: (259, 14) :: (259, 12) :: (259, 11) :: (259, 10) :: (259, 6) :: (259, 5) :: (259, 4) :: (259, 3) :: (259, 2) :: (259, 1) :: (259, 0) :: D)) 8 := hA25.us (by decide) (by decide) (by decide +kernel)
  refine zz_putr (q := 272) dX10_init_129 fX10_61 (fun _ _ _ _ => rfl) (fun w => ⟨rfl, rfl⟩) (fun q h => by cases h; exact ⟨rfl, rfl⟩) rfl (hA25.is (by decide) (by decide) (by decide +kernel)) ?_
  generalize (M25.1, zz_us M25.2 259 20 (some 272)) = M26 at hA26 ⊢
  refine zz_aload_n rfl dX10_init_132 ?_
  refine zz_bipush (v := 24) (by decide) dX10_init_133 ?_
  have hA27 : AG L (zz_pu M26 (1, 24, fun _ => none)) 273 ((259, 20) :: (259, 19) :: (259, 14) :: (259, 12) :: (259, 11) :: (259, 10) :: (259, 6) :: (259, 5) :: (259, 4) :: (259, 3) :: (259, 2) :: (259, 1) :: (259, 0) :: D) 8 := hA26.pu (by decide +kernel) (Or.inr (by decide))
  refine zz_newarr (t := 1) (N := 24) dX10_init_135 rfl ac_int (Nat.le_of_ble_eq_true rfl) (by decide) (by decide) (by decide) (hA26.fr (FR.up (N' := 272) (FR.up (N' := 271) (FR.ui (FR.ui (FR.ui (FR.up (N' := 270) (FR.up (N' := 269) (FR.up (N' := 268) (FR.up (N' := 267) (FR.ui (FR.up (N' := 266) (FR.up (N' := 265) (FR.up (N' := 264) (FR.up (N' := 263) (FR.up (N' := 262) (FR.up (N' := 261) (FR.up (N' := 260) hI (by decide)) (by decide)) (by decide)) (by decide)) (by decide)) (by decide)) (by decide)) (by decide)) (by decide)) (by decide)) (by decide)) (by decide)) (by decide)) (by decide)) (by decide)) (by decide)) (by decide))) (hA26.fj (FJ.up (N' := 272) (FJ.up (N' := 271) (FJ.up (N' := 270) (FJ.up (N' := 269) (FJ.up (N' := 268) (FJ.up (N' := 267) (FJ.up (N' := 266) (FJ.up (N' := 265) (FJ.up (N' := 264) (FJ.up (N' := 263) (FJ.up (N' := 262) (FJ.up (N' := 261) (FJ.up (N' := 260) hJ (by decide)) (by decide)) (by decide)) (by decide)) (by decide)) (by decide)) (by decide)) (by decide)) (by decide)) (by decide)) (by decide)) (by decide)) (by decide))) (Or.inl ⟨rfl, rfl⟩) ?_
  rw [hA26.1]
  try dsimp only [zz_s1, zz_s2, zz_kill, zz_ent, zz_fl, List.set_cons_zero, List.set_cons_succ, List.getElem?_cons_zero, List.getElem?_cons_succ, Option.toList_some, Option.toList_none, List.cons_append, List.nil_append, List.append_nil, List.length_cons, List.length_nil, List.replicate_succ, List.replicate_zero, Nat.reduceAdd, Nat.reduceSub]
  generalize zz_pu M26 (1, 24, fun _ => none) = M27 at hA27 ⊢
  have hA28 : AG L (M27.1, zz_us M27.2 259 22 (some 273)) 273 ((259, 22) :: ((259, 20) :: (259, 19) :: (259, 14) :: (259, 12) :: (259, 11) :: (259, 10) :: (259, 6) :: (259, 5) :: (259, 4) :: (259, 3) :: (259, 2) :: (259, 1) :: (259, 0) :: D)) 8 := hA27.us (by decide) (by decide) (by decide +kernel)
  refine zz_putr (q := 273) dX10_init_137 fX10_64 (fun _ _ _ _ => rfl) (fun w => ⟨rfl, rfl⟩) (fun q h => by cases h; exact ⟨rfl, rfl⟩) rfl (hA27.is (by decide) (by decide) (by decide +kernel)) ?_
  generalize (M27.1, zz_us M27.2 259 22 (some 273)) = M28 at hA28 ⊢
  refine zz_aload_n rfl dX10_init_140 ?_
  refine zz_bipush (v := 12) (by decide) dX10_init_141 ?_
  have hA29 : AG L (zz_pu M28 (2, 12, fun _ => none)) 274 ((259, 22) :: (259, 20) :: (259, 19) :: (259, 14) :: (259, 12) :: (259, 11) :: (259, 10) :: (259, 6) :: (259, 5) :: (259, 4) :: (259, 3) :: (259, 2) :: (259, 1) :: (259, 0) :: D) 8 := hA28.pu (by decide +kernel) (Or.inr (by decide))
  refine zz_newarr (t := 2) (N := 12) dX10_init_143 rfl ac_long (Nat.le_of_ble_eq_true rfl) (by decide) (by decide) (by decide) (hA28.fr (FR.up (N' := 273) (FR.up (N' := 272) (FR.up (N' := 271) (FR.ui (FR.ui (FR.ui (FR.up (N' := 270) (FR.up (N' := 269) (FR.up (N' := 268) (FR.up (N' := 267) (FR.ui (FR.up (N' := 266) (FR.up (N' := 265) (FR.up (N' := 264) (FR.up (N' := 263) (FR.up (N' := 262) (FR.up (N' := 261) (FR.up (N' := 260) hI (by decide)) (by decide)) (by decide)) (by decide)) (by decide)) (by decide)) (by decide)) (by decide)) (by decide)) (by decide)) (by decide)) (by decide)) (by decide)) (by decide)) (by decide)) (by decide)) (by decide)) (by decide))) (hA28.fj (FJ.up (N' := 273) (FJ.up (N' := 272) (FJ.up (N' := 271) (FJ.up (N' := 270) (FJ.up (N' := 269) (FJ.up (N' := 268) (FJ.up (N' := 267) (FJ.up (N' := 266) (FJ.up (N' := 265) (FJ.up (N' := 264) (FJ.up (N' := 263) (FJ.up (N' := 262) (FJ.up (N' := 261) (FJ.up (N' := 260) hJ (by decide)) (by decide)) (by decide)) (by decide)) (by decide)) (by decide)) (by decide)) (by decide)) (by decide)) (by decide)) (by decide)) (by decide)) (by decide)) (by decide))) (Or.inr (Or.inl ⟨rfl, rfl⟩)) ?_
  rw [hA28.1]
  try dsimp only [zz_s1, zz_s2, zz_kill, zz_ent, zz_fl, List.set_cons_zero, List.set_cons_succ, List.getElem?_cons_zero, List.getElem?_cons_succ, Option.toList_some, Option.toList_none, List.cons_append, List.nil_append, List.append_nil, List.length_cons, List.length_nil, List.replicate_succ, List.replicate_zero, Nat.reduceAdd, Nat.reduceSub]
  generalize zz_pu M28 (2, 12, fun _ => none) = M29 at hA29 ⊢
  have hA30 : AG L (M29.1, zz_us M29.2 259 26 (some 274)) 274 ((259, 26) :: ((259, 22) :: (259, 20) :: (259, 19) :: (259, 14) :: (259, 12) :: (259, 11) :: (259, 10) :: (259, 6) :: (259, 5) :: (259, 4) :: (259, 3) :: (259, 2) :: (259, 1) :: (259, 0) :: D)) 8 := hA29.us (by decide) (by decide) (by decide +kernel)
  refine zz_putr (q := 274) dX10_init_145 fX10_67 (fun _ _ _ _ => rfl) (fun w => ⟨rfl, rfl⟩) (fun q h => by cases h; exact ⟨rfl, rfl⟩) rfl (hA29.is (by decide) (by decide) (by decide +kernel)) ?_
  generalize (M29.1, zz_us M29.2 259 26 (some 274)) = M30 at hA30 ⊢
  refine zz_aload_n rfl dX10_init_148 ?_
  refine zz_bipush (v := 12) (by decide) dX10_init_149 ?_
  have hA31 : AG L (zz_pu M30 (2, 12, fun _ => none)) 275 ((259, 26) :: (259, 22) :: (259, 20) :: (259, 19) :: (259, 14) :: (259, 12) :: (259, 11) :: (259, 10) :: (259, 6) :: (259, 5) :: (259, 4) :: (259, 3) :: (259, 2) :: (259, 1) :: (259, 0) :: D) 8 := hA30.pu (by decide +kernel) (Or.inr (by decide))
  refine zz_newarr (t := 2) (N := 12) dX10_init_151 rfl ac_long (Nat.le_of_ble_eq_true rfl) (by decide) (by decide) (by decide) (hA30.fr (FR.up (N' := 274) (FR.up (N' := 273) (FR.up (N' := 272) (FR.up (N' := 271) (FR.ui (FR.ui (FR.ui (FR.up (N' := 270) (FR.up (N' := 269) (FR.up (N' := 268) (FR.up (N' := 267) (FR.ui (FR.up (N' := 266) (FR.up (N' := 265) (FR.up (N' := 264) (FR.up (N' := 263) (FR.up (N' := 262) (FR.up (N' := 261) (FR.up (N' := 260) hI (by decide)) (by decide)) (by decide)) (by decide)) (by decide)) (by decide)) (by decide)) (by decide)) (by decide)) (by decide)) (by decide)) (by decide)) (by decide)) (by decide)) (by decide)) (by decide)) (by decide)) (by decide)) (by decide))) (hA30.fj (FJ.up (N' := 274) (FJ.up (N' := 273) (FJ.up (N' := 272) (FJ.up (N' := 271) (FJ.up (N' := 270) (FJ.up (N' := 269) (FJ.up (N' := 268) (FJ.up (N' := 267) (FJ.up (N' := 266) (FJ.up (N' := 265) (FJ.up (N' := 264) (FJ.up (N' := 263) (FJ.up (N' := 262) (FJ.up (N' := 261) (FJ.up (N' := 260) hJ (by decide)) (by decide)) (by decide)) (by decide)) (by decide)) (by decide)) (by decide)) (by decide)) (by decide)) (by decide)) (by decide)) (by decide)) (by decide)) (by decide)) (by decide))) (Or.inr (Or.inl ⟨rfl, rfl⟩)) ?_
  rw [hA30.1]
  try dsimp only [zz_s1, zz_s2, zz_kill, zz_ent, zz_fl, List.set_cons_zero, List.set_cons_succ, List.getElem?_cons_zero, List.getElem?_cons_succ, Option.toList_some, Option.toList_none, List.cons_append, List.nil_append, List.append_nil, List.length_cons, List.length_nil, List.replicate_succ, List.replicate_zero, Nat.reduceAdd, Nat.reduceSub]
  generalize zz_pu M30 (2, 12, fun _ => none) = M31 at hA31 ⊢
  have hA32 : AG L (M31.1, zz_us M31.2 259 27 (some 275)) 275 ((259, 27) :: ((259, 26) :: (259, 22) :: (259, 20) :: (259, 19) :: (259, 14) :: (259, 12) :: (259, 11) :: (259, 10) :: (259, 6) :: (259, 5) :: (259, 4) :: (259, 3) :: (259, 2) :: (259, 1) :: (259, 0) :: D)) 8 := hA31.us (by decide) (by decide) (by decide +kernel)
  refine zz_putr (q := 275) dX10_init_153 fX10_70 (fun _ _ _ _ => rfl) (fun w => ⟨rfl, rfl⟩) (fun q h => by cases h; exact ⟨rfl, rfl⟩) rfl (hA31.is (by decide) (by decide) (by decide +kernel)) ?_
  generalize (M31.1, zz_us M31.2 259 27 (some 275)) = M32 at hA32 ⊢
  refine zz_aload_n rfl dX10_init_156 ?_
  refine zz_iconst (v := (-1)) (by decide) dX10_init_157 ?_
  refine zz_puti dX10_init_158 fX10_73 rfl (fun q h => by cases h; rfl) (hA32.is (by decide) (by decide) (by decide +kernel)) ?_
  refine zz_aload_n rfl dX10_init_161 ?_
  refine zz_iconst (v := (-1)) (by decide) dX10_init_162 ?_
  refine zz_puti dX10_init_163 fX10_76 rfl (fun q h => by cases h; rfl) (hA32.is (by decide) (by decide) (by decide +kernel)) ?_
  refine zz_iconst (v := 0) (by decide) dX10_init_166 ?_
  refine zz_istore_n dX10_init_167 (by decide) ?_
  try dsimp only [zz_s1, zz_s2, zz_kill, zz_ent, zz_fl, List.set_cons_zero, List.set_cons_succ, List.getElem?_cons_zero, List.getElem?_cons_succ, Option.toList_some, Option.toList_none, List.cons_append, List.nil_append, List.append_nil, List.length_cons, List.length_nil, List.replicate_succ, List.replicate_zero, Nat.reduceAdd, Nat.reduceSub]
  generalize hIE : zz_ui (zz_ui (zz_ui (zz_ui (zz_ui (zz_ui (I) 259 9 (-1)) 259 15 (-1)) 259 16 (-1)) 259 17 (-1)) 259 29 (-1)) 259 30 (-1) = IE
  have fE : ∀ c, c ≠ 259 → IE c = I c := fun c hc => by rw [← hIE, zz_ui_ne _ _ _ hc, zz_ui_ne _ _ _ hc, zz_ui_ne _ _ _ hc, zz_ui_ne _ _ _ hc, zz_ui_ne _ _ _ hc, zz_ui_ne _ _ _ hc]
  have hV0 : IV IE [] := fun q hq => by cases hq
  have hVE : IV IE [(259, 30, (-1)), (259, 29, (-1)), (259, 21, 0), (259, 18, 0), (259, 17, (-1)), (259, 16, (-1)), (259, 15, (-1)), (259, 9, (-1)), (259, 8, 0), (259, 7, 0)] := ((((((((((hV0.cons (by rw [← hIE, zz_ui_at, pk_un (by decide), zz_ui_at, pk_un (by decide), zz_ui_at, pk_un (by decide), zz_ui_at, pk_un (by decide), zz_ui_at, pk_un (by decide), zz_ui_at, pk_un (by decide), hz])).cons (by rw [← hIE, zz_ui_at, pk_un (by decide), zz_ui_at, pk_un (by decide), zz_ui_at, pk_un (by decide), zz_ui_at, pk_un (by decide), zz_ui_at, pk_un (by decide), zz_ui_at, pk_un (by decide), hz])).cons (by rw [← hIE, zz_ui_at, pk_un (by decide), zz_ui_at, pk_un (by decide), zz_ui_at, pk_un (by decide), zz_ui_at, pk_un (by decide), zz_ui_at, pk_un (by decide), zz_ui_at, pk_us])).cons (by rw [← hIE, zz_ui_at, pk_un (by decide), zz_ui_at, pk_un (by decide), zz_ui_at, pk_un (by decide), zz_ui_at, pk_un (by decide), zz_ui_at, pk_us])).cons (by rw [← hIE, zz_ui_at, pk_un (by decide), zz_ui_at, pk_un (by decide), zz_ui_at, pk_un (by decide), zz_ui_at, pk_us])).cons (by rw [← hIE, zz_ui_at, pk_un (by decide), zz_ui_at, pk_un (by decide), zz_ui_at, pk_us])).cons (by rw [← hIE, zz_ui_at, pk_un (by decide), zz_ui_at, pk_un (by decide), zz_ui_at, pk_un (by decide), zz_ui_at, pk_un (by decide), zz_ui_at, pk_un (by decide), zz_ui_at, pk_un (by decide), hz])).cons (by rw [← hIE, zz_ui_at, pk_un (by decide), zz_ui_at, pk_un (by decide), zz_ui_at, pk_un (by decide), zz_ui_at, pk_un (by decide), zz_ui_at, pk_un (by decide), zz_ui_at, pk_un (by decide), hz])).cons (by rw [← hIE, zz_ui_at, pk_un (by decide), zz_ui_at, pk_us])).cons (by rw [← hIE, zz_ui_at, pk_us]))
  have loop : ∀ (q l : Nat) (Ix : zz_I), l + q = 8 → (∀ c, c ≠ 259 → c ≠ 260 → Ix c = I c) → IV Ix [(259, 30, (-1)), (259, 29, (-1)), (259, 21, 0), (259, 18, 0), (259, 17, (-1)), (259, 16, (-1)), (259, 15, (-1)), (259, 9, (-1)), (259, 8, 0), (259, 7, 0)] → (∀ l', l' < l → Ix 260 l' = 1) → zz_G mX10_init (d + 1) 16 168 [some (.ref 259), some (.int (nI l))] [] M32 Ix J Q := by
    intro q
    induction q with
    | zero =>
      intro l Ix hl f1 f2 f3
      have e : l = 8 := by omega
      subst e
      refine zz_iload_n rfl dX10_init_168 ?_
      refine zz_bipush (v := 8) (by decide) dX10_init_169 ?_
      try dsimp only [zz_s1, zz_s2, zz_kill, zz_ent, zz_fl, List.set_cons_zero, List.set_cons_succ, List.getElem?_cons_zero, List.getElem?_cons_succ, Option.toList_some, Option.toList_none, List.cons_append, List.nil_append, List.append_nil, List.length_cons, List.length_nil, List.replicate_succ, List.replicate_zero, Nat.reduceAdd, Nat.reduceSub]
      refine zz_icmp_ge (tgt := 187) dX10_init_171 (by decide) (fun q1 => ?_) (fun q1 => ?_)
      · refine zz_return dX10_init_187 rfl ?_
        exact hQ _ Ix hA32 f1 f2 f3
      · exact absurd (Int32.le_refl _) q1
    | succ q ih =>
      intro l Ix hl f1 f2 f3
      refine zz_iload_n rfl dX10_init_168 ?_
      refine zz_bipush (v := 8) (by decide) dX10_init_169 ?_
      try dsimp only [zz_s1, zz_s2, zz_kill, zz_ent, zz_fl, List.set_cons_zero, List.set_cons_succ, List.getElem?_cons_zero, List.getElem?_cons_succ, Option.toList_some, Option.toList_none, List.cons_append, List.nil_append, List.append_nil, List.length_cons, List.length_nil, List.replicate_succ, List.replicate_zero, Nat.reduceAdd, Nat.reduceSub]
      refine zz_icmp_ge (tgt := 187) dX10_init_171 (by decide) (fun q1 => ?_) (fun q1 => ?_)
      · exact absurd q1 (nI_ge (b := 8) (by omega) (by decide))
      refine zz_aload_n rfl dX10_init_174 ?_
      refine zz_getr (q := 260) dX10_init_175 fX10_9 (fun _ _ _ _ => rfl) (hA32.is (by decide) (by decide) (by decide +kernel)) ((hA32.2.2.1 (259, 0) (by simp)).2.trans (by decide +kernel)) ?_
      refine zz_iload_n rfl dX10_init_178 ?_
      refine zz_iconst (v := 1) (by decide) dX10_init_179 ?_
      refine zz_iast (a := 260) (n := 8) dX10_init_180 (hA32.is (by decide) (by decide) (by decide +kernel)) (vp_in_nI (show l < 8 by omega) (by decide)) ?_
      refine zz_iinc dX10_init_181 rfl (congrArg (HAdd.hAdd _) (show Int32.ofInt 1 = 1 by decide)) (by decide) ?_
      refine zz_goto (tgt := 168) dX10_init_184 (by decide) ?_
      try dsimp only [zz_s1, zz_s2, zz_kill, zz_ent, zz_fl, List.set_cons_zero, List.set_cons_succ, List.getElem?_cons_zero, List.getElem?_cons_succ, Option.toList_some, Option.toList_none, List.cons_append, List.nil_append, List.append_nil, List.length_cons, List.length_nil, List.replicate_succ, List.replicate_zero, Nat.reduceAdd, Nat.reduceSub]
      rw [nI_1, nI_clamp (show l < 2 ^ 31 by omega)]
      refine ih (l + 1) _ (by omega) (fun c c1 c2 => ?_) (f2.up (a := 260) (fun c hc => zz_ui_ne _ _ _ hc) (by decide)) (fun l' hl' => ?_)
      · rw [zz_ui_ne _ _ _ c2]; exact f1 c c1 c2
      · rw [zz_ui_at]
        by_cases e : l' = l
        · rw [e, pk_us]
        · rw [pk_un e]; exact f3 l' (by omega)
  exact loop 8 0 IE rfl (fun c c1 _ => fE c c1) hVE (fun l' hl' => by omega)
end Inits2
