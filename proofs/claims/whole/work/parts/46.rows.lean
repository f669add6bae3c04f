/-! ===== row, stands ===== -/
/-- a number of a row set -/
def ru (r : Nat → Nat → Int32) (a i : Nat) (v : Int32) : Nat → Nat → Int32 := fun x y => if x = a ∧ y = i then v else r x y
/-- the product of two rows -/
def prd (r : Nat → Nat → Int32) (a b : Nat) : Nat → Int32
  | 0 => 0
  | i + 1 => prd r a b i + r a i * r b i
/-- the first flaw: the pairs of a letter; the letters; the handle -/
def fl2 (E : Nat → Nat → Bool) (r : Nat → Nat → Int32) (a : Nat) : Nat → Nat → Option Int32
  | 0, _ => none
  | q + 1, b => if E a b = false ∧ ¬ prd r a b 6 = 0 then some (nI (100 * a + b)) else fl2 E r a q (b + 1)
def fl1 (E : Nat → Nat → Bool) (r : Nat → Nat → Int32) : Nat → Nat → Option Int32
  | 0, _ => none
  | q + 1, a => match fl2 E r a q (a + 1) with
    | some x => some x
    | none => fl1 E r q (a + 1)
def fl3 (r : Nat → Nat → Int32) : Nat → Nat → Option Int32
  | 0, _ => none
  | q + 1, a => if prd r a 24 6 = 0 then some (nI (10000 + a)) else fl3 r q (a + 1)
def ff (n : Nat) (E : Nat → Nat → Bool) (r : Nat → Nat → Int32) : Int32 := match fl1 E r n 0 with
  | some x => x
  | none => match fl3 r n 0 with
    | some x => x
    | none => -1
section PRows
variable {M : zz_M} {I : zz_I} {J : zz_J} {Q : zz_Q} {n : Nat → Nat} {kd ag : Nat → Int32} {E : Nat → Nat → Nat → Bool} {sg : Nat → Nat → Int32} {rw : Nat → Nat → Nat → Int32}
theorem row_in {A : Int32} {m : Nat} (hm : m < 1000) : (A = -1 ∨ vp_in A m) ↔ ((-1 : Int64) ≤ A.toInt64 ∧ A.toInt64 ≤ (nI m).toInt64 - 1) := by
  rw [nI_l (by omega), Int64.le_iff_toInt_le, Int64.le_iff_toInt_le, i2l_int, vp_in_iff]
  have e1 : (-1 : Int64).toInt = -1 := by decide
  have e2 : (lN m - 1).toInt = (m : Int) - 1 := by
    by_cases h0 : m = 0
    · subst h0; decide
    · rw [lN_pred (by omega), pk_lT (by omega)]; omega
  have e3 : A = -1 ↔ A.toInt = -1 := ⟨fun h => by rw [h]; rfl, fun h => Int32.toInt_inj.mp (by rw [h]; rfl)⟩
  rw [e1, e2, e3]
  omega
theorem sp_X9_row (d : Nat) (hO : OK M) {l A i v : Int32} (hn : ∀ j, j < 8 → 1 ≤ n j ∧ n j ≤ 24) (hC : ∀ j, j < 8 → CL I j (n j) (kd j) (ag j) (E j) (sg j) (rw j))
    (h1 : ∀ j x y, j < 8 → x < 25 → ((A = -1 ∧ x = 24) ∨ (x < n j ∧ A = nI x)) → y < 6 → l = nI j → i = nI y → -30 ≤ v → v ≤ 30 → ∀ I' : zz_I, (∀ c, c ≠ LN j + 4 + x → I' c = I c) → CL I' j (n j) (kd j) (ag j) (E j) (sg j) (ru (rw j) x y v) → Q (some (.int (rw j x y))) M I' J)
    (h2 : ¬ (∃ j x y, j < 8 ∧ x < 25 ∧ ((A = -1 ∧ x = 24) ∨ (x < n j ∧ A = nI x)) ∧ y < 6 ∧ l = nI j ∧ i = nI y ∧ -30 ≤ v ∧ v ≤ 30) → Q (some (.int (-31))) M I J) : zz_D mX9_row (d + 1) [.ref 1, .int l, .int A, .int i, .int v] M I J Q := by
  refine zz_D_of rfl (Nat.le_of_ble_eq_true rfl) ?_
  try dsimp only [zz_s1, zz_s2, zz_kill, zz_ent, zz_fl, List.set_cons_zero, List.set_cons_succ, List.getElem?_cons_zero, List.getElem?_cons_succ, Option.toList_some, Option.toList_none, List.cons_append, List.nil_append, List.append_nil, List.length_cons, List.length_nil, List.replicate_succ, List.replicate_zero, Nat.reduceAdd, Nat.reduceSub]
  refine zz_aload_n rfl dX9_row_0 ?_
  refine zz_iload_n rfl dX9_row_1 ?_
  try dsimp only [zz_s1, zz_s2, zz_kill, zz_ent, zz_fl, List.set_cons_zero, List.set_cons_succ, List.getElem?_cons_zero, List.getElem?_cons_succ, Option.toList_some, Option.toList_none, List.cons_append, List.nil_append, List.append_nil, List.length_cons, List.length_nil, List.replicate_succ, List.replicate_zero, Nat.reduceAdd, Nat.reduceSub]
  refine zz_cV1 dX9_row_2 lX9_100 rfl (os_1 hO) rfl rfl (Nat.le_of_ble_eq_true rfl) (Nat.le_of_ble_eq_true rfl) ?_
  refine sp_lineAt d hO (fun j hj e => ?_) (fun hv => ?_)
  try dsimp only [zz_s1, zz_s2, zz_kill, zz_ent, zz_fl, List.set_cons_zero, List.set_cons_succ, List.getElem?_cons_zero, List.getElem?_cons_succ, Option.toList_some, Option.toList_none, List.cons_append, List.nil_append, List.append_nil, List.length_cons, List.length_nil, List.replicate_succ, List.replicate_zero, Nat.reduceAdd, Nat.reduceSub]
  · skip
    have hc := hC j hj
    have hnj := hn j hj
    have bad : ¬ ((A = -1 ∨ vp_in A (n j)) ∧ vp_in i 6) → zz_G mX9_row (d + 1) 0 36 [some (.ref 1), some (.int l), some (.int A), some (.int i), some (.int v), some (.ref (LN j)), none, none] [] M I J Q := by
      intro q
      refine zz_bipush (v := (-31)) (by decide) dX9_row_36 ?_
      refine zz_ireturn dX9_row_38 rfl (by first | rfl | decide | assumption) ?_
      refine h2 (fun ⟨j', x, y, a1, a2, a3, a4, a5, a6, a7⟩ => q ?_)
      have ej : j' = j := (nI_eq (by omega) (by omega)).mp (a5.symm.trans e)
      subst ej
      refine ⟨a3.elim (fun z => Or.inl z.1) (fun z => Or.inr (by rw [z.2]; exact vp_in_nI z.1 (by omega))), by rw [a6]; exact vp_in_nI a4 (by decide)⟩
    have good : (A = -1 ∨ vp_in A (n j)) → zz_G mX9_row (d + 1) 0 26 [some (.ref 1), some (.int l), some (.int A), some (.int i), some (.int v), some (.ref (LN j)), none, none] [] M I J Q := by
      intro hA
      refine zz_iload_n rfl dX9_row_26 ?_
      try dsimp only [zz_s1, zz_s2, zz_kill, zz_ent, zz_fl, List.set_cons_zero, List.set_cons_succ, List.getElem?_cons_zero, List.getElem?_cons_succ, Option.toList_some, Option.toList_none, List.cons_append, List.nil_append, List.append_nil, List.length_cons, List.length_nil, List.replicate_succ, List.replicate_zero, Nat.reduceAdd, Nat.reduceSub]
      refine zz_if_lt (tgt := 36) dX9_row_27 (by decide) (fun b1 => ?_) (fun b1 => ?_)
      · exact bad (fun q => q.2 (Or.inl b1))
      refine zz_iload_n rfl dX9_row_30 ?_
      refine zz_bipush (v := 6) (by decide) dX9_row_31 ?_
      try dsimp only [zz_s1, zz_s2, zz_kill, zz_ent, zz_fl, List.set_cons_zero, List.set_cons_succ, List.getElem?_cons_zero, List.getElem?_cons_succ, Option.toList_some, Option.toList_none, List.cons_append, List.nil_append, List.append_nil, List.length_cons, List.length_nil, List.replicate_succ, List.replicate_zero, Nat.reduceAdd, Nat.reduceSub]
      refine zz_icmp_lt (tgt := 39) dX9_row_33 (by decide) (fun b2 => ?_) (fun b2 => ?_)
      rotate_left
      · refine bad (fun q => ?_)
        have := (vp_in_iff.mp q.2).2
        rw [Int32.lt_iff_toInt_lt] at b2
        have e6 : (6 : Int32).toInt = 6 := rfl
        omega
      obtain ⟨y, hy, rfl⟩ := vp_in_of (x := i) (n := 6) (has_in (by decide) |>.mp ⟨Int32.not_lt.mp b1, b2⟩) (by decide)
      obtain ⟨x, hx, hxA⟩ : ∃ x, x < 25 ∧ ((A = -1 ∧ x = 24) ∨ (x < n j ∧ A = nI x)) := by
        rcases hA with q | q
        · exact ⟨24, by decide, Or.inl ⟨q, rfl⟩⟩
        · obtain ⟨x, hx, ex⟩ := vp_in_of q (by omega)
          exact ⟨x, by omega, Or.inr ⟨hx, ex⟩⟩
      have bad2 : ¬ (-30 ≤ v ∧ v ≤ 30) → zz_G mX9_row (d + 1) 0 53 [some (.ref 1), some (.int l), some (.int A), some (.int (nI y)), some (.int v), some (.ref (LN j)), none, none] [] M I J Q := by
        intro q
        refine zz_bipush (v := (-31)) (by decide) dX9_row_53 ?_
        refine zz_ireturn dX9_row_55 rfl (by first | rfl | decide | assumption) ?_
        exact h2 (fun ⟨j', x, y, a1, a2, a3, a4, a5, a6, a7⟩ => q a7)
      refine zz_iload rfl dX9_row_39 ?_
      refine zz_bipush (v := (-30)) (by decide) dX9_row_41 ?_
      try dsimp only [zz_s1, zz_s2, zz_kill, zz_ent, zz_fl, List.set_cons_zero, List.set_cons_succ, List.getElem?_cons_zero, List.getElem?_cons_succ, Option.toList_some, Option.toList_none, List.cons_append, List.nil_append, List.append_nil, List.length_cons, List.length_nil, List.replicate_succ, List.replicate_zero, Nat.reduceAdd, Nat.reduceSub]
      refine zz_icmp_lt (tgt := 53) dX9_row_43 (by decide) (fun b3 => ?_) (fun b3 => ?_)
      · exact bad2 (fun q => Int32.not_lt.mpr q.1 b3)
      refine zz_iload rfl dX9_row_46 ?_
      refine zz_bipush (v := 30) (by decide) dX9_row_48 ?_
      try dsimp only [zz_s1, zz_s2, zz_kill, zz_ent, zz_fl, List.set_cons_zero, List.set_cons_succ, List.getElem?_cons_zero, List.getElem?_cons_succ, Option.toList_some, Option.toList_none, List.cons_append, List.nil_append, List.append_nil, List.length_cons, List.length_nil, List.replicate_succ, List.replicate_zero, Nat.reduceAdd, Nat.reduceSub]
      refine zz_icmp_le (tgt := 56) dX9_row_50 (by decide) (fun b4 => ?_) (fun b4 => ?_)
      rotate_left
      · exact bad2 (fun q => b4 q.2)
      have key : zz_G mX9_row (d + 1) 0 72 [some (.ref 1), some (.int l), some (.int A), some (.int (nI y)), some (.int v), some (.ref (LN j)), none, none] [.int (nI x), .ref (LN j + 3)] M I J Q := by
        have vy : vp_in (nI y) 6 := vp_in_nI hy (by decide)
        refine zz_aaldI dX9_row_72 (ol_num hO hj) (vp_in_nI hx (by decide)) (olr_row hO hj (by rw [nI_clamp (by omega)]; exact hx)) ?_
        refine zz_astore dX9_row_73 (by decide) ?_
        refine zz_aload rfl dX9_row_75 ?_
        refine zz_iload_n rfl dX9_row_77 ?_
        refine zz_iald dX9_row_78 (ol_row hO hj (by rw [nI_clamp (by omega)]; exact hx)) vy ?_
        refine zz_istore dX9_row_79 (by decide) ?_
        refine zz_aload rfl dX9_row_81 ?_
        refine zz_iload_n rfl dX9_row_83 ?_
        refine zz_iload rfl dX9_row_84 ?_
        refine zz_iast dX9_row_86 (ol_row hO hj (by rw [nI_clamp (by omega)]; exact hx)) vy ?_
        refine zz_iload rfl dX9_row_87 ?_
        refine zz_ireturn dX9_row_89 rfl (by first | rfl | decide | assumption) ?_
        rw [nI_clamp (show x < 2 ^ 31 by omega), nI_clamp (show y < 2 ^ 31 by omega), hc.2.2.2.2.2 x hx y hy]
        refine h1 j x y hj hx hxA hy e rfl (Int32.not_lt.mp b3) b4 _ (fun c hc => zz_ui_ne _ _ _ hc) ⟨?_, ?_, ?_, fun a ha b hb => ?_, fun a ha => ?_, fun a ha i hi => ?_⟩
        · rw [zz_ui_ne _ _ _ (by omega)]; exact hc.1
        · rw [zz_ui_ne _ _ _ (by omega)]; exact hc.2.1
        · rw [zz_ui_ne _ _ _ (by omega)]; exact hc.2.2.1
        · rw [zz_ui_ne _ _ _ (by omega)]; exact hc.2.2.2.1 a ha b hb
        · rw [zz_ui_ne _ _ _ (by omega)]; exact hc.2.2.2.2.1 a ha
        · unfold ru
          by_cases ea : a = x
          · subst ea
            rw [zz_ui_at]
            by_cases ei : i = y
            · subst ei; rw [pk_us]; simp
            · rw [pk_un ei, hc.2.2.2.2.2 a ha i hi]; simp [ei]
          · rw [zz_ui_ne _ _ _ (by omega), hc.2.2.2.2.2 a ha i hi]
            simp [ea]
      refine zz_aload rfl dX9_row_56 ?_
      refine zz_getr dX9_row_58 fX9_219 (fun _ _ _ _ => rfl) (ol_obj hO hj) (olr_num hO hj) ?_
      refine zz_iload_n rfl dX9_row_61 ?_
      refine zz_iconst (v := (-1)) (by decide) dX9_row_62 ?_
      try dsimp only [zz_s1, zz_s2, zz_kill, zz_ent, zz_fl, List.set_cons_zero, List.set_cons_succ, List.getElem?_cons_zero, List.getElem?_cons_succ, Option.toList_some, Option.toList_none, List.cons_append, List.nil_append, List.append_nil, List.length_cons, List.length_nil, List.replicate_succ, List.replicate_zero, Nat.reduceAdd, Nat.reduceSub]
      refine zz_icmp_ne (tgt := 71) dX9_row_63 (by decide) (fun b5 => ?_) (fun b5 => ?_)
      · refine zz_iload_n rfl dX9_row_71 ?_
        try dsimp only [zz_s1, zz_s2, zz_kill, zz_ent, zz_fl, List.set_cons_zero, List.set_cons_succ, List.getElem?_cons_zero, List.getElem?_cons_succ, Option.toList_some, Option.toList_none, List.cons_append, List.nil_append, List.append_nil, List.length_cons, List.length_nil, List.replicate_succ, List.replicate_zero, Nat.reduceAdd, Nat.reduceSub]
        rcases hxA with ⟨q, -⟩ | ⟨-, q⟩
        · exact absurd q b5
        · rw [← q] at key
          exact key
      · skip
        refine zz_bipush (v := 24) (by decide) dX9_row_66 ?_
        refine zz_goto (tgt := 72) dX9_row_68 (by decide) ?_
        try dsimp only [zz_s1, zz_s2, zz_kill, zz_ent, zz_fl, List.set_cons_zero, List.set_cons_succ, List.getElem?_cons_zero, List.getElem?_cons_succ, Option.toList_some, Option.toList_none, List.cons_append, List.nil_append, List.append_nil, List.length_cons, List.length_nil, List.replicate_succ, List.replicate_zero, Nat.reduceAdd, Nat.reduceSub]
        rcases hxA with ⟨-, q⟩ | ⟨q1, q⟩
        · rw [q] at key
          exact key
        · rw [b5] at q
          have := congrArg Int32.toInt q
          rw [nI_toInt (by omega)] at this
          have e1 : (-1 : Int32).toInt = -1 := by decide
          omega
    refine zz_astore dX9_row_5 (by decide) ?_
    refine zz_aload rfl dX9_row_7 ?_
    try dsimp only [zz_s1, zz_s2, zz_kill, zz_ent, zz_fl, List.set_cons_zero, List.set_cons_succ, List.getElem?_cons_zero, List.getElem?_cons_succ, Option.toList_some, Option.toList_none, List.cons_append, List.nil_append, List.append_nil, List.length_cons, List.length_nil, List.replicate_succ, List.replicate_zero, Nat.reduceAdd, Nat.reduceSub]
    refine zz_ifnull dX9_row_9 ?_
    try dsimp only [zz_s1, zz_s2, zz_kill, zz_ent, zz_fl, List.set_cons_zero, List.set_cons_succ, List.getElem?_cons_zero, List.getElem?_cons_succ, Option.toList_some, Option.toList_none, List.cons_append, List.nil_append, List.append_nil, List.length_cons, List.length_nil, List.replicate_succ, List.replicate_zero, Nat.reduceAdd, Nat.reduceSub]
    refine zz_iload_n rfl dX9_row_12 ?_
    refine zz_iconst (v := (-1)) (by decide) dX9_row_13 ?_
    try dsimp only [zz_s1, zz_s2, zz_kill, zz_ent, zz_fl, List.set_cons_zero, List.set_cons_succ, List.getElem?_cons_zero, List.getElem?_cons_succ, Option.toList_some, Option.toList_none, List.cons_append, List.nil_append, List.append_nil, List.length_cons, List.length_nil, List.replicate_succ, List.replicate_zero, Nat.reduceAdd, Nat.reduceSub]
    refine zz_icmp_eq (tgt := 26) dX9_row_14 (by decide) (fun c1 => ?_) (fun c1 => ?_)
    · exact good (Or.inl c1)
    refine zz_aload rfl dX9_row_17 ?_
    refine zz_iload_n rfl dX9_row_19 ?_
    try dsimp only [zz_s1, zz_s2, zz_kill, zz_ent, zz_fl, List.set_cons_zero, List.set_cons_succ, List.getElem?_cons_zero, List.getElem?_cons_succ, Option.toList_some, Option.toList_none, List.cons_append, List.nil_append, List.append_nil, List.length_cons, List.length_nil, List.replicate_succ, List.replicate_zero, Nat.reduceAdd, Nat.reduceSub]
    refine zz_cV1 dX9_row_20 lX9_108 rfl (ol_obj hO hj) rfl rfl (Nat.le_of_ble_eq_true rfl) (Nat.le_of_ble_eq_true rfl) ?_
    refine sp_X3_has d hO hj (fun r hr => ?_)
    try dsimp only [zz_s1, zz_s2, zz_kill, zz_ent, zz_fl, List.set_cons_zero, List.set_cons_succ, List.getElem?_cons_zero, List.getElem?_cons_succ, Option.toList_some, Option.toList_none, List.cons_append, List.nil_append, List.append_nil, List.length_cons, List.length_nil, List.replicate_succ, List.replicate_zero, Nat.reduceAdd, Nat.reduceSub]
    have hr : bo r (vp_in A (n j)) := bo.iff hr (by rw [hc.2.1]; exact has_in (by omega))
    refine zz_if_eq (tgt := 36) dX9_row_23 (by decide) (fun c2 => ?_) (fun c2 => ?_)
    · exact bad (fun q => q.1.elim c1 (hr.f c2))
    · exact good (Or.inr (hr.t c2))
  · try dsimp only [zz_s1, zz_s2, zz_kill, zz_ent, zz_fl, List.set_cons_zero, List.set_cons_succ, List.getElem?_cons_zero, List.getElem?_cons_succ, Option.toList_some, Option.toList_none, List.cons_append, List.nil_append, List.append_nil, List.length_cons, List.length_nil, List.replicate_succ, List.replicate_zero, Nat.reduceAdd, Nat.reduceSub]
    refine zz_nstore dX9_row_5 (by decide) ?_
    refine zz_nload rfl dX9_row_7 ?_
    try dsimp only [zz_s1, zz_s2, zz_kill, zz_ent, zz_fl, List.set_cons_zero, List.set_cons_succ, List.getElem?_cons_zero, List.getElem?_cons_succ, Option.toList_some, Option.toList_none, List.cons_append, List.nil_append, List.append_nil, List.length_cons, List.length_nil, List.replicate_succ, List.replicate_zero, Nat.reduceAdd, Nat.reduceSub]
    refine zz_ifnullN (tgt := 36) dX9_row_9 (by decide) ?_
    refine zz_bipush (v := (-31)) (by decide) dX9_row_36 ?_
    refine zz_ireturn dX9_row_38 rfl (by first | rfl | decide | assumption) ?_
    exact h2 (fun ⟨j', x, y, a1, a2, a3, a4, a5, a6, a7⟩ => hv (by rw [a5]; exact vp_in_nI a1 (by decide)))
theorem sp_placeOf (d : Nat) {j x : Nat} {A : Int32} (hj : j < 8) (hx : x < 25) (hA : (A = -1 ∧ x = 24) ∨ (x < 24 ∧ A = nI x)) (hQ : Q (some (.int (nI (150 * j + 6 * x)))) M I J) : zz_D mX10_placeOf d [.int (nI j), .int A] M I J Q := by
  have e : ((25 : Int32) * nI j + nI x) * 6 = nI (150 * j + 6 * x) := by
    rw [show (25 : Int32) = nI 25 from rfl, show (6 : Int32) = nI 6 from rfl, pk_mul, nI_add, pk_mul]
    congr 1
    omega
  refine zz_D_of rfl (Nat.le_of_ble_eq_true rfl) ?_
  try dsimp only [zz_s1, zz_s2, zz_kill, zz_ent, zz_fl, List.set_cons_zero, List.set_cons_succ, List.getElem?_cons_zero, List.getElem?_cons_succ, Option.toList_some, Option.toList_none, List.cons_append, List.nil_append, List.append_nil, List.length_cons, List.length_nil, List.replicate_succ, List.replicate_zero, Nat.reduceAdd, Nat.reduceSub]
  refine zz_bipush (v := 25) (by decide) dX10_placeOf_0 ?_
  refine zz_iload_n rfl dX10_placeOf_2 ?_
  refine zz_imul dX10_placeOf_3 ?_
  refine zz_iload_n rfl dX10_placeOf_4 ?_
  refine zz_iconst (v := (-1)) (by decide) dX10_placeOf_5 ?_
  try dsimp only [zz_s1, zz_s2, zz_kill, zz_ent, zz_fl, List.set_cons_zero, List.set_cons_succ, List.getElem?_cons_zero, List.getElem?_cons_succ, Option.toList_some, Option.toList_none, List.cons_append, List.nil_append, List.append_nil, List.length_cons, List.length_nil, List.replicate_succ, List.replicate_zero, Nat.reduceAdd, Nat.reduceSub]
  refine zz_icmp_ne (tgt := 14) dX10_placeOf_6 (by decide) (fun h => ?_) (fun h => ?_)
  · refine zz_iload_n rfl dX10_placeOf_14 ?_
    refine zz_iadd dX10_placeOf_15 ?_
    refine zz_bipush (v := 6) (by decide) dX10_placeOf_16 ?_
    refine zz_imul dX10_placeOf_18 ?_
    refine zz_ireturn dX10_placeOf_19 rfl (by first | rfl | decide | assumption) ?_
    rcases hA with ⟨q, -⟩ | ⟨-, q⟩
    · exact absurd q h
    · rw [q, e]; exact hQ
  · skip
    refine zz_bipush (v := 24) (by decide) dX10_placeOf_9 ?_
    refine zz_goto (tgt := 15) dX10_placeOf_11 (by decide) ?_
    refine zz_iadd dX10_placeOf_15 ?_
    refine zz_bipush (v := 6) (by decide) dX10_placeOf_16 ?_
    refine zz_imul dX10_placeOf_18 ?_
    refine zz_ireturn dX10_placeOf_19 rfl (by first | rfl | decide | assumption) ?_
    rcases hA with ⟨-, q⟩ | ⟨q1, q⟩
    · rw [q] at e
      rw [show (24 : Int32) = nI 24 from rfl, e, ← q]
      exact hQ
    · rw [h] at q
      have := congrArg Int32.toInt q
      rw [nI_toInt (by omega)] at this
      have e1 : (-1 : Int32).toInt = -1 := by decide
      omega
theorem sp_X10_row (d : Nat) (hO : OK M) {l A i v : Int32} (hn : ∀ j, j < 8 → 1 ≤ n j ∧ n j ≤ 24) (hC : ∀ j, j < 8 → ML I j (n j) (kd j) (ag j) (E j) (sg j) (rw j))
    (h1 : ∀ j x y, j < 8 → x < 25 → ((A = -1 ∧ x = 24) ∨ (x < n j ∧ A = nI x)) → y < 6 → l = nI j → i = nI y → -30 ≤ v → v ≤ 30 → ∀ I' : zz_I, FM j I I' → (∀ c, c ≠ 264 → I' c = I c) → ML I' j (n j) (kd j) (ag j) (E j) (sg j) (ru (rw j) x y v) → Q (some (.int (rw j x y))) M I' J)
    (h2 : ¬ (∃ j x y, j < 8 ∧ x < 25 ∧ ((A = -1 ∧ x = 24) ∨ (x < n j ∧ A = nI x)) ∧ y < 6 ∧ l = nI j ∧ i = nI y ∧ -30 ≤ v ∧ v ≤ 30) → Q (some (.int (-31))) M I J) : zz_D mX10_row (d + 2) [.ref 259, .int l, .int A, .int i, .int v] M I J Q := by
  refine zz_D_of rfl (Nat.le_of_ble_eq_true rfl) ?_
  try dsimp only [zz_s1, zz_s2, zz_kill, zz_ent, zz_fl, List.set_cons_zero, List.set_cons_succ, List.getElem?_cons_zero, List.getElem?_cons_succ, Option.toList_some, Option.toList_none, List.cons_append, List.nil_append, List.append_nil, List.length_cons, List.length_nil, List.replicate_succ, List.replicate_zero, Nat.reduceAdd, Nat.reduceSub]
  refine zz_iload_n rfl dX10_row_0 ?_
  try dsimp only [zz_s1, zz_s2, zz_kill, zz_ent, zz_fl, List.set_cons_zero, List.set_cons_succ, List.getElem?_cons_zero, List.getElem?_cons_succ, Option.toList_some, Option.toList_none, List.cons_append, List.nil_append, List.append_nil, List.length_cons, List.length_nil, List.replicate_succ, List.replicate_zero, Nat.reduceAdd, Nat.reduceSub]
  refine zz_cS1 dX10_row_1 lX10_85 rfl (Nat.le_of_ble_eq_true rfl) (Nat.le_of_ble_eq_true rfl) ?_
  refine sp_isLine d (fun r0 hr0 => ?_)
  try dsimp only [zz_s1, zz_s2, zz_kill, zz_ent, zz_fl, List.set_cons_zero, List.set_cons_succ, List.getElem?_cons_zero, List.getElem?_cons_succ, Option.toList_some, Option.toList_none, List.cons_append, List.nil_append, List.append_nil, List.length_cons, List.length_nil, List.replicate_succ, List.replicate_zero, Nat.reduceAdd, Nat.reduceSub]
  refine zz_if_eq (tgt := 54) dX10_row_4 (by decide) (fun q0 => ?_) (fun q0 => ?_)
  · refine zz_bipush (v := (-31)) (by decide) dX10_row_54 ?_
    refine zz_ireturn dX10_row_56 rfl (by first | rfl | decide | assumption) ?_
    exact h2 (fun ⟨j', x, y, a1, a2, a3, a4, a5, a6, a7⟩ => hr0.f q0 (by rw [a5]; exact vp_in_nI a1 (by decide)))
  obtain ⟨j, hj, rfl⟩ := vp_in_of (hr0.t q0) (by decide)
  have hc := hC j hj
  have hnj := hn j hj
  refine zz_iload_n rfl dX10_row_7 ?_
  refine zz_i2l dX10_row_8 ?_
  refine zz_ldc2 tX10_155 dX10_row_9 ?_
  refine zz_aload_n rfl dX10_row_12 ?_
  refine zz_getr dX10_row_13 fX10_9 (fun _ _ _ _ => rfl) (os_259 hO) (or_259_0 hO) ?_
  refine zz_iload_n rfl dX10_row_16 ?_
  refine zz_iald dX10_row_17 (os_260 hO) (vp_in_nI hj (by decide)) ?_
  refine zz_i2l dX10_row_18 ?_
  refine zz_lconst (v := 1) (by decide) dX10_row_19 ?_
  refine zz_lsub dX10_row_20 ?_
  try dsimp only [zz_s1, zz_s2, zz_kill, zz_ent, zz_fl, List.set_cons_zero, List.set_cons_succ, List.getElem?_cons_zero, List.getElem?_cons_succ, Option.toList_some, Option.toList_none, List.cons_append, List.nil_append, List.append_nil, List.length_cons, List.length_nil, List.replicate_succ, List.replicate_zero, Nat.reduceAdd, Nat.reduceSub]
  rw [nI_clamp (by omega), hc.2.1]
  refine zz_cS3 dX10_row_21 lX10_81 rfl (Nat.le_of_ble_eq_true rfl) (Nat.le_of_ble_eq_true rfl) ?_
  refine sp_in (d + 1) (fun r hr => ?_)
  try dsimp only [zz_s1, zz_s2, zz_kill, zz_ent, zz_fl, List.set_cons_zero, List.set_cons_succ, List.getElem?_cons_zero, List.getElem?_cons_succ, Option.toList_some, Option.toList_none, List.cons_append, List.nil_append, List.append_nil, List.length_cons, List.length_nil, List.replicate_succ, List.replicate_zero, Nat.reduceAdd, Nat.reduceSub]
  have hr : bo r (A = -1 ∨ vp_in A (n j)) := hr.iff (row_in (by omega)).symm
  refine zz_if_eq (tgt := 54) dX10_row_24 (by decide) (fun q1 => ?_) (fun q1 => ?_)
  · refine zz_bipush (v := (-31)) (by decide) dX10_row_54 ?_
    refine zz_ireturn dX10_row_56 rfl (by first | rfl | decide | assumption) ?_
    refine h2 (fun ⟨j', x, y, a1, a2, a3, a4, a5, a6, a7⟩ => hr.f q1 ?_)
    have ej : j = j' := (nI_eq (by omega) (by omega)).mp a5
    subst ej
    exact a3.elim (fun z => Or.inl z.1) (fun z => Or.inr (by rw [z.2]; exact vp_in_nI z.1 (by omega)))
  refine zz_iload_n rfl dX10_row_27 ?_
  refine zz_i2l dX10_row_28 ?_
  refine zz_lconst (v := 0) (by decide) dX10_row_29 ?_
  refine zz_ldc2 tX10_203 dX10_row_30 ?_
  try dsimp only [zz_s1, zz_s2, zz_kill, zz_ent, zz_fl, List.set_cons_zero, List.set_cons_succ, List.getElem?_cons_zero, List.getElem?_cons_succ, Option.toList_some, Option.toList_none, List.cons_append, List.nil_append, List.append_nil, List.length_cons, List.length_nil, List.replicate_succ, List.replicate_zero, Nat.reduceAdd, Nat.reduceSub]
  refine zz_cS3 dX10_row_33 lX10_81 rfl (Nat.le_of_ble_eq_true rfl) (Nat.le_of_ble_eq_true rfl) ?_
  refine sp_in (d + 1) (fun r2 hr2 => ?_)
  try dsimp only [zz_s1, zz_s2, zz_kill, zz_ent, zz_fl, List.set_cons_zero, List.set_cons_succ, List.getElem?_cons_zero, List.getElem?_cons_succ, Option.toList_some, Option.toList_none, List.cons_append, List.nil_append, List.append_nil, List.length_cons, List.length_nil, List.replicate_succ, List.replicate_zero, Nat.reduceAdd, Nat.reduceSub]
  have hr2 : bo r2 (vp_in i 6) := hr2.iff (by
    rw [vp_in_iff, Int64.le_iff_toInt_le, Int64.le_iff_toInt_le, i2l_int]
    show (0 : Int) ≤ i.toInt ∧ i.toInt ≤ 5 ↔ _
    omega)
  refine zz_if_eq (tgt := 54) dX10_row_36 (by decide) (fun q2 => ?_) (fun q2 => ?_)
  · refine zz_bipush (v := (-31)) (by decide) dX10_row_54 ?_
    refine zz_ireturn dX10_row_56 rfl (by first | rfl | decide | assumption) ?_
    exact h2 (fun ⟨j', x, y, a1, a2, a3, a4, a5, a6, a7⟩ => hr2.f q2 (by rw [a6]; exact vp_in_nI a4 (by decide)))
  refine zz_iload rfl dX10_row_39 ?_
  refine zz_i2l dX10_row_41 ?_
  refine zz_ldc2 tX10_205 dX10_row_42 ?_
  refine zz_ldc2 tX10_207 dX10_row_45 ?_
  try dsimp only [zz_s1, zz_s2, zz_kill, zz_ent, zz_fl, List.set_cons_zero, List.set_cons_succ, List.getElem?_cons_zero, List.getElem?_cons_succ, Option.toList_some, Option.toList_none, List.cons_append, List.nil_append, List.append_nil, List.length_cons, List.length_nil, List.replicate_succ, List.replicate_zero, Nat.reduceAdd, Nat.reduceSub]
  refine zz_cS3 dX10_row_48 lX10_81 rfl (Nat.le_of_ble_eq_true rfl) (Nat.le_of_ble_eq_true rfl) ?_
  refine sp_in (d + 1) (fun r3 hr3 => ?_)
  try dsimp only [zz_s1, zz_s2, zz_kill, zz_ent, zz_fl, List.set_cons_zero, List.set_cons_succ, List.getElem?_cons_zero, List.getElem?_cons_succ, Option.toList_some, Option.toList_none, List.cons_append, List.nil_append, List.append_nil, List.length_cons, List.length_nil, List.replicate_succ, List.replicate_zero, Nat.reduceAdd, Nat.reduceSub]
  have hr3 : bo r3 (-30 ≤ v ∧ v ≤ 30) := hr3.iff (by
    rw [Int64.le_iff_toInt_le, Int64.le_iff_toInt_le, i2l_int, Int32.le_iff_toInt_le, Int32.le_iff_toInt_le]
    exact Iff.rfl)
  refine zz_if_ne (tgt := 57) dX10_row_51 (by decide) (fun q3 => ?_) (fun q3 => ?_)
  rotate_left
  · refine zz_bipush (v := (-31)) (by decide) dX10_row_54 ?_
    refine zz_ireturn dX10_row_56 rfl (by first | rfl | decide | assumption) ?_
    exact h2 (fun ⟨j', x, y, a1, a2, a3, a4, a5, a6, a7⟩ => hr3.f q3 a7)
  obtain ⟨y, hy, rfl⟩ := vp_in_of (hr2.t q2) (by decide)
  obtain ⟨x, hx, hxA⟩ : ∃ x, x < 25 ∧ ((A = -1 ∧ x = 24) ∨ (x < n j ∧ A = nI x)) := by
    rcases hr.t q1 with q | q
    · exact ⟨24, by decide, Or.inl ⟨q, rfl⟩⟩
    · obtain ⟨x, hx, ex⟩ := vp_in_of q (by omega)
      exact ⟨x, by omega, Or.inr ⟨hx, ex⟩⟩
  refine zz_iload_n rfl dX10_row_57 ?_
  refine zz_iload_n rfl dX10_row_58 ?_
  try dsimp only [zz_s1, zz_s2, zz_kill, zz_ent, zz_fl, List.set_cons_zero, List.set_cons_succ, List.getElem?_cons_zero, List.getElem?_cons_succ, Option.toList_some, Option.toList_none, List.cons_append, List.nil_append, List.append_nil, List.length_cons, List.length_nil, List.replicate_succ, List.replicate_zero, Nat.reduceAdd, Nat.reduceSub]
  refine zz_cS2 dX10_row_59 lX10_209 rfl (Nat.le_of_ble_eq_true rfl) (Nat.le_of_ble_eq_true rfl) ?_
  refine sp_placeOf (d + 1) hj hx (hxA.elim Or.inl (fun z => Or.inr ⟨by omega, z.2⟩)) ?_
  try dsimp only [zz_s1, zz_s2, zz_kill, zz_ent, zz_fl, List.set_cons_zero, List.set_cons_succ, List.getElem?_cons_zero, List.getElem?_cons_succ, Option.toList_some, Option.toList_none, List.cons_append, List.nil_append, List.append_nil, List.length_cons, List.length_nil, List.replicate_succ, List.replicate_zero, Nat.reduceAdd, Nat.reduceSub]
  have vp : vp_in (nI (150 * j + 6 * x) + nI y) 1200 := by rw [nI_add]; exact vp_in_nI (by omega) (by decide)
  refine zz_iload_n rfl dX10_row_62 ?_
  refine zz_iadd dX10_row_63 ?_
  refine zz_istore dX10_row_64 (by decide) ?_
  refine zz_aload_n rfl dX10_row_66 ?_
  refine zz_getr dX10_row_67 fX10_22 (fun _ _ _ _ => rfl) (os_259 hO) (or_259_4 hO) ?_
  refine zz_iload rfl dX10_row_70 ?_
  refine zz_iald dX10_row_72 (os_264 hO) vp ?_
  refine zz_istore dX10_row_73 (by decide) ?_
  refine zz_aload_n rfl dX10_row_75 ?_
  refine zz_getr dX10_row_76 fX10_22 (fun _ _ _ _ => rfl) (os_259 hO) (or_259_4 hO) ?_
  refine zz_iload rfl dX10_row_79 ?_
  refine zz_iload rfl dX10_row_81 ?_
  refine zz_iast dX10_row_83 (os_264 hO) vp ?_
  refine zz_iload rfl dX10_row_84 ?_
  refine zz_ireturn dX10_row_86 rfl (by first | rfl | decide | assumption) ?_
  rw [nI_add, nI_clamp (show 150 * j + 6 * x + y < 2 ^ 31 by omega)]
  have e0 := hc.2.2.2.2.2 x hx y hy
  rw [← Nat.add_assoc] at e0
  rw [e0]
  refine h1 j x y hj hx hxA hy rfl rfl (hr3.t q3).1 (hr3.t q3).2 _ ⟨fun c hc => zz_ui_ne _ _ _ (by omega), fun l' a b => ⟨?_, ?_, ?_, fun a _ => ?_, fun a _ => ?_, fun q hq => ?_⟩⟩ (fun c hc => zz_ui_ne _ _ _ hc) ⟨?_, ?_, ?_, fun a ha b hb => ?_, fun a ha => ?_, fun a ha i hi => ?_⟩
  · rw [zz_ui_ne _ _ _ (by decide)]
  · rw [zz_ui_ne _ _ _ (by decide)]
  · rw [zz_ui_ne _ _ _ (by decide)]
  · rw [zz_ui_ne _ _ _ (by decide)]
  · rw [zz_ui_ne _ _ _ (by decide)]
  · rw [zz_ui_at, pk_un (by omega)]
  · rw [zz_ui_ne _ _ _ (by decide)]; exact hc.1
  · rw [zz_ui_ne _ _ _ (by decide)]; exact hc.2.1
  · rw [zz_ui_ne _ _ _ (by decide)]; exact hc.2.2.1
  · rw [zz_ui_ne _ _ _ (by decide)]; exact hc.2.2.2.1 a ha b hb
  · rw [zz_ui_ne _ _ _ (by decide)]; exact hc.2.2.2.2.1 a ha
  · unfold ru
    rw [zz_ui_at]
    by_cases ea : a = x ∧ i = y
    · rw [if_pos ea, ea.1, ea.2, show 150 * j + (6 * x + y) = 150 * j + 6 * x + y by omega, pk_us]
    · rw [if_neg ea, pk_un (by omega)]
      exact hc.2.2.2.2.2 a ha i hi
theorem sp_X6_product (d : Nat) {p q : Nat} {r : Nat → Nat → Int32} {a b : Nat} (hp : zz_is M p 1 6) (hq : zz_is M q 1 6) (ep : ∀ i, i < 6 → I p i = r a i) (eq : ∀ i, i < 6 → I q i = r b i) (hQ : Q (some (.int (prd r a b 6))) M I J) : zz_D mX6_product d [.ref p, .ref q] M I J Q := by
  refine zz_D_of rfl (Nat.le_of_ble_eq_true rfl) ?_
  try dsimp only [zz_s1, zz_s2, zz_kill, zz_ent, zz_fl, List.set_cons_zero, List.set_cons_succ, List.getElem?_cons_zero, List.getElem?_cons_succ, Option.toList_some, Option.toList_none, List.cons_append, List.nil_append, List.append_nil, List.length_cons, List.length_nil, List.replicate_succ, List.replicate_zero, Nat.reduceAdd, Nat.reduceSub]
  refine zz_iconst (v := 0) (by decide) dX6_product_0 ?_
  refine zz_istore_n dX6_product_1 (by decide) ?_
  refine zz_iconst (v := 0) (by decide) dX6_product_2 ?_
  refine zz_istore_n dX6_product_3 (by decide) ?_
  try dsimp only [zz_s1, zz_s2, zz_kill, zz_ent, zz_fl, List.set_cons_zero, List.set_cons_succ, List.getElem?_cons_zero, List.getElem?_cons_succ, Option.toList_some, Option.toList_none, List.cons_append, List.nil_append, List.append_nil, List.length_cons, List.length_nil, List.replicate_succ, List.replicate_zero, Nat.reduceAdd, Nat.reduceSub]
  have loop : ∀ (w i : Nat), i + w = 6 → zz_G mX6_product d 0 4 [some (.ref p), some (.ref q), some (.int (prd r a b i)), some (.int (nI i))] [] M I J Q := by
    intro w
    induction w with
    | zero =>
      intro i hi
      have e : i = 6 := by omega
      subst e
      refine zz_iload_n rfl dX6_product_4 ?_
      refine zz_bipush (v := 6) (by decide) dX6_product_5 ?_
      try dsimp only [zz_s1, zz_s2, zz_kill, zz_ent, zz_fl, List.set_cons_zero, List.set_cons_succ, List.getElem?_cons_zero, List.getElem?_cons_succ, Option.toList_some, Option.toList_none, List.cons_append, List.nil_append, List.append_nil, List.length_cons, List.length_nil, List.replicate_succ, List.replicate_zero, Nat.reduceAdd, Nat.reduceSub]
      refine zz_icmp_ge (tgt := 26) dX6_product_7 (by decide) (fun h => ?_) (fun h => ?_)
      · refine zz_iload_n rfl dX6_product_26 ?_
        refine zz_ireturn dX6_product_27 rfl (by first | rfl | decide | assumption) ?_
        exact hQ
      · exact absurd (by decide) h
    | succ w ih =>
      intro i hi
      refine zz_iload_n rfl dX6_product_4 ?_
      refine zz_bipush (v := 6) (by decide) dX6_product_5 ?_
      try dsimp only [zz_s1, zz_s2, zz_kill, zz_ent, zz_fl, List.set_cons_zero, List.set_cons_succ, List.getElem?_cons_zero, List.getElem?_cons_succ, Option.toList_some, Option.toList_none, List.cons_append, List.nil_append, List.append_nil, List.length_cons, List.length_nil, List.replicate_succ, List.replicate_zero, Nat.reduceAdd, Nat.reduceSub]
      refine zz_icmp_ge (tgt := 26) dX6_product_7 (by decide) (fun h => ?_) (fun h => ?_)
      · exact absurd h (nI_ge (b := 6) (by omega) (by decide))
      · skip
        refine zz_iload_n rfl dX6_product_10 ?_
        refine zz_aload_n rfl dX6_product_11 ?_
        refine zz_iload_n rfl dX6_product_12 ?_
        refine zz_iald dX6_product_13 hp (vp_in_nI (by omega) (by decide)) ?_
        refine zz_aload_n rfl dX6_product_14 ?_
        refine zz_iload_n rfl dX6_product_15 ?_
        refine zz_iald dX6_product_16 hq (vp_in_nI (by omega) (by decide)) ?_
        refine zz_imul dX6_product_17 ?_
        refine zz_iadd dX6_product_18 ?_
        refine zz_istore_n dX6_product_19 (by decide) ?_
        refine zz_iinc dX6_product_20 rfl (congrArg (HAdd.hAdd _) (show Int32.ofInt 1 = 1 by decide)) (by decide) ?_
        refine zz_goto (tgt := 4) dX6_product_23 (by decide) ?_
        try dsimp only [zz_s1, zz_s2, zz_kill, zz_ent, zz_fl, List.set_cons_zero, List.set_cons_succ, List.getElem?_cons_zero, List.getElem?_cons_succ, Option.toList_some, Option.toList_none, List.cons_append, List.nil_append, List.append_nil, List.length_cons, List.length_nil, List.replicate_succ, List.replicate_zero, Nat.reduceAdd, Nat.reduceSub]
        rw [nI_1, nI_clamp (by omega), ep i (by omega), eq i (by omega)]
        exact ih (i + 1) (by omega)
  exact loop 6 0 rfl
theorem sp_X10_product (d : Nat) (hO : OK M) {j x z m : Nat} {A B k g : Int32} {E : Nat → Nat → Bool} {s : Nat → Int32} {r : Nat → Nat → Int32} (hj : j < 8) (hc : ML I j m k g E s r) (hx : x < 25) (hz : z < 25) (hA : (A = -1 ∧ x = 24) ∨ (x < 24 ∧ A = nI x)) (hB : (B = -1 ∧ z = 24) ∨ (z < 24 ∧ B = nI z)) (hQ : Q (some (.int (prd r x z 6))) M I J) : zz_D mX10_product (d + 1) [.ref 259, .int (nI j), .int A, .int B] M I J Q := by
  refine zz_D_of rfl (Nat.le_of_ble_eq_true rfl) ?_
  try dsimp only [zz_s1, zz_s2, zz_kill, zz_ent, zz_fl, List.set_cons_zero, List.set_cons_succ, List.getElem?_cons_zero, List.getElem?_cons_succ, Option.toList_some, Option.toList_none, List.cons_append, List.nil_append, List.append_nil, List.length_cons, List.length_nil, List.replicate_succ, List.replicate_zero, Nat.reduceAdd, Nat.reduceSub]
  refine zz_iconst (v := 0) (by decide) dX10_product_0 ?_
  refine zz_istore dX10_product_1 (by decide) ?_
  refine zz_iconst (v := 0) (by decide) dX10_product_3 ?_
  refine zz_istore dX10_product_4 (by decide) ?_
  try dsimp only [zz_s1, zz_s2, zz_kill, zz_ent, zz_fl, List.set_cons_zero, List.set_cons_succ, List.getElem?_cons_zero, List.getElem?_cons_succ, Option.toList_some, Option.toList_none, List.cons_append, List.nil_append, List.append_nil, List.length_cons, List.length_nil, List.replicate_succ, List.replicate_zero, Nat.reduceAdd, Nat.reduceSub]
  have loop : ∀ (w i : Nat), i + w = 6 → zz_G mX10_product (d + 1) 0 6 [some (.ref 259), some (.int (nI j)), some (.int A), some (.int B), some (.int (prd r x z i)), some (.int (nI i))] [] M I J Q := by
    intro w
    induction w with
    | zero =>
      intro i hi
      have e : i = 6 := by omega
      subst e
      refine zz_iload rfl dX10_product_6 ?_
      refine zz_bipush (v := 6) (by decide) dX10_product_8 ?_
      try dsimp only [zz_s1, zz_s2, zz_kill, zz_ent, zz_fl, List.set_cons_zero, List.set_cons_succ, List.getElem?_cons_zero, List.getElem?_cons_succ, Option.toList_some, Option.toList_none, List.cons_append, List.nil_append, List.append_nil, List.length_cons, List.length_nil, List.replicate_succ, List.replicate_zero, Nat.reduceAdd, Nat.reduceSub]
      refine zz_icmp_ge (tgt := 51) dX10_product_10 (by decide) (fun h => ?_) (fun h => ?_)
      · refine zz_iload rfl dX10_product_51 ?_
        refine zz_ireturn dX10_product_53 rfl (by first | rfl | decide | assumption) ?_
        exact hQ
      · exact absurd (by decide) h
    | succ w ih =>
      intro i hi
      have e1 := hc.2.2.2.2.2 x hx i (by omega)
      have e2 := hc.2.2.2.2.2 z hz i (by omega)
      rw [← Nat.add_assoc] at e1 e2
      refine zz_iload rfl dX10_product_6 ?_
      refine zz_bipush (v := 6) (by decide) dX10_product_8 ?_
      try dsimp only [zz_s1, zz_s2, zz_kill, zz_ent, zz_fl, List.set_cons_zero, List.set_cons_succ, List.getElem?_cons_zero, List.getElem?_cons_succ, Option.toList_some, Option.toList_none, List.cons_append, List.nil_append, List.append_nil, List.length_cons, List.length_nil, List.replicate_succ, List.replicate_zero, Nat.reduceAdd, Nat.reduceSub]
      refine zz_icmp_ge (tgt := 51) dX10_product_10 (by decide) (fun h => ?_) (fun h => ?_)
      · exact absurd h (nI_ge (b := 6) (by omega) (by decide))
      · skip
        refine zz_iload rfl dX10_product_13 ?_
        refine zz_aload_n rfl dX10_product_15 ?_
        refine zz_getr dX10_product_16 fX10_22 (fun _ _ _ _ => rfl) (os_259 hO) (or_259_4 hO) ?_
        refine zz_iload_n rfl dX10_product_19 ?_
        refine zz_iload_n rfl dX10_product_20 ?_
        try dsimp only [zz_s1, zz_s2, zz_kill, zz_ent, zz_fl, List.set_cons_zero, List.set_cons_succ, List.getElem?_cons_zero, List.getElem?_cons_succ, Option.toList_some, Option.toList_none, List.cons_append, List.nil_append, List.append_nil, List.length_cons, List.length_nil, List.replicate_succ, List.replicate_zero, Nat.reduceAdd, Nat.reduceSub]
        refine zz_cS2 dX10_product_21 lX10_209 rfl (Nat.le_of_ble_eq_true rfl) (Nat.le_of_ble_eq_true rfl) ?_
        refine sp_placeOf d hj hx hA ?_
        try dsimp only [zz_s1, zz_s2, zz_kill, zz_ent, zz_fl, List.set_cons_zero, List.set_cons_succ, List.getElem?_cons_zero, List.getElem?_cons_succ, Option.toList_some, Option.toList_none, List.cons_append, List.nil_append, List.append_nil, List.length_cons, List.length_nil, List.replicate_succ, List.replicate_zero, Nat.reduceAdd, Nat.reduceSub]
        refine zz_iload rfl dX10_product_24 ?_
        refine zz_iadd dX10_product_26 ?_
        refine zz_iald dX10_product_27 (os_264 hO) (by rw [nI_add]; exact vp_in_nI (by omega) (by decide)) ?_
        refine zz_aload_n rfl dX10_product_28 ?_
        refine zz_getr dX10_product_29 fX10_22 (fun _ _ _ _ => rfl) (os_259 hO) (or_259_4 hO) ?_
        refine zz_iload_n rfl dX10_product_32 ?_
        refine zz_iload_n rfl dX10_product_33 ?_
        try dsimp only [zz_s1, zz_s2, zz_kill, zz_ent, zz_fl, List.set_cons_zero, List.set_cons_succ, List.getElem?_cons_zero, List.getElem?_cons_succ, Option.toList_some, Option.toList_none, List.cons_append, List.nil_append, List.append_nil, List.length_cons, List.length_nil, List.replicate_succ, List.replicate_zero, Nat.reduceAdd, Nat.reduceSub]
        refine zz_cS2 dX10_product_34 lX10_209 rfl (Nat.le_of_ble_eq_true rfl) (Nat.le_of_ble_eq_true rfl) ?_
        refine sp_placeOf d hj hz hB ?_
        try dsimp only [zz_s1, zz_s2, zz_kill, zz_ent, zz_fl, List.set_cons_zero, List.set_cons_succ, List.getElem?_cons_zero, List.getElem?_cons_succ, Option.toList_some, Option.toList_none, List.cons_append, List.nil_append, List.append_nil, List.length_cons, List.length_nil, List.replicate_succ, List.replicate_zero, Nat.reduceAdd, Nat.reduceSub]
        refine zz_iload rfl dX10_product_37 ?_
        refine zz_iadd dX10_product_39 ?_
        refine zz_iald dX10_product_40 (os_264 hO) (by rw [nI_add]; exact vp_in_nI (by omega) (by decide)) ?_
        refine zz_imul dX10_product_41 ?_
        refine zz_iadd dX10_product_42 ?_
        refine zz_istore dX10_product_43 (by decide) ?_
        refine zz_iinc dX10_product_45 rfl (congrArg (HAdd.hAdd _) (show Int32.ofInt 1 = 1 by decide)) (by decide) ?_
        refine zz_goto (tgt := 6) dX10_product_48 (by decide) ?_
        try dsimp only [zz_s1, zz_s2, zz_kill, zz_ent, zz_fl, List.set_cons_zero, List.set_cons_succ, List.getElem?_cons_zero, List.getElem?_cons_succ, Option.toList_some, Option.toList_none, List.cons_append, List.nil_append, List.append_nil, List.length_cons, List.length_nil, List.replicate_succ, List.replicate_zero, Nat.reduceAdd, Nat.reduceSub]
        rw [nI_1, nI_add, nI_add, nI_clamp (show 150 * j + 6 * x + i < 2 ^ 31 by omega), nI_clamp (show 150 * j + 6 * z + i < 2 ^ 31 by omega), e1, e2]
        exact ih (i + 1) (by omega)
  exact loop 6 0 rfl
end PRows

