/-! ===== what came ===== -/
/-- the signs read, none at a strange byte -/
def rsg (by_ : Nat → Nat) : Nat → Nat → List Nat → Option (List Nat)
  | 0, _, rd => some rd
  | r + 1, k, rd =>
    if by_ k = 32 ∨ by_ k = 10 then rsg by_ r (k + 1) rd
    else if 97 ≤ by_ k ∧ by_ k ≤ 120 then rsg by_ r (k + 1) (rd ++ [by_ k])
    else none
theorem rsg_len (by_ : Nat → Nat) : ∀ (r k : Nat) (rd L : List Nat), rsg by_ r k rd = some L → rd.length ≤ L.length
  | 0, k, rd, L, h => by cases h; exact Nat.le_refl _
  | r + 1, k, rd, L, h => by
    unfold rsg at h
    split at h
    · exact rsg_len by_ r (k + 1) rd L h
    · split at h
      · have := rsg_len by_ r (k + 1) _ L h
        rw [List.length_append] at this
        simp at this
        omega
      · cases h
theorem rsg_ax (by_ : Nat → Nat) : ∀ (r k : Nat) (rd L : List Nat), (∀ i, i < rd.length → 97 ≤ rd.getD i 0 ∧ rd.getD i 0 ≤ 120) → rsg by_ r k rd = some L → ∀ i, i < L.length → 97 ≤ L.getD i 0 ∧ L.getD i 0 ≤ 120
  | 0, k, rd, L, g, h => by cases h; exact g
  | r + 1, k, rd, L, g, h => by
    unfold rsg at h
    split at h
    · exact rsg_ax by_ r (k + 1) rd L g h
    · split at h
      · rename_i hb
        refine rsg_ax by_ r (k + 1) _ L (fun i hi => ?_) h
        by_cases e : i < rd.length
        · have := g i e
          simp [List.getElem?_append_left e] at *
          exact this
        · have e2 : i = rd.length := by simp at hi; omega
          subst e2
          simp
          exact hb
      · cases h
/-- whether a word may have been sent -/
def mkB (nn : Nat) (sg : Nat → Int32) (L : List Nat) : Nat → Nat → Bool
  | 0, _ => true
  | i + 1, v => !decide (sg (v % nn) &&& sbit (L.getD i 0) = 0) && mkB nn sg L i (v / nn)
theorem mkB_s {nn : Nat} {sg : Nat → Int32} {L : List Nat} {i v : Nat} : mkB nn sg L (i + 1) v = true ↔ ¬ (sg (v % nn) &&& sbit (L.getD i 0) = 0) ∧ mkB nn sg L i (v / nn) = true := by
  show (_ && _) = true ↔ _
  rw [Bool.and_eq_true, Bool.not_eq_true', decide_eq_false_iff_not]
/-- how many words may have been sent, and the first of them -/
def cm (p : Nat → Bool) (ws : Nat → Nat) (s0 : Int32) : Nat → Nat × Int32
  | 0 => (0, s0)
  | i + 1 => if p (ws i) then ((cm p ws s0 i).1 + 1, if (cm p ws s0 i).1 = 0 then nI (ws i) else (cm p ws s0 i).2) else cm p ws s0 i
theorem cm_le (p : Nat → Bool) (ws : Nat → Nat) (s0 : Int32) : ∀ i, (cm p ws s0 i).1 ≤ i
  | 0 => Nat.le_refl _
  | i + 1 => by
    have := cm_le p ws s0 i
    unfold cm
    split
    · show _ + 1 ≤ _; omega
    · omega
/-- what came answers, and what was sent -/
def caR (kd ag cl ca l : Int32) (by_ : Nat → Nat) (n k sz : Nat) (ws : Nat → Nat) (nn : Nat) (sg : Nat → Int32) (s0 : Int32) : Int32 × Int32 :=
  if kd = 1 ∧ cl = l ∧ ca = ag then
    match rsg by_ n 0 [] with
    | some L => if L.length = k then (nI (cm (mkB nn sg L k) ws s0 sz).1, (cm (mkB nn sg L k) ws s0 sz).2) else (-1, s0)
    | none => (-1, s0)
  else (-4, s0)
theorem gDn {L : List Nat} {x : Nat} {i : Nat} (h : i < L.length + 1) : (L ++ [x]).getD i 0 = if i = L.length then x else L.getD i 0 := by
  by_cases e : i = L.length
  · subst e; simp
  · rw [if_neg e]
    have : i < L.length := by omega
    simp [List.getElem?_append_left this]
theorem sbit_bt (x : Int32) {v : Nat} (h1 : 97 ≤ v) (h2 : v ≤ 120) : (¬ x &&& sbit v = 0) ↔ bt x (v - 97) = true := by
  constructor
  · intro h
    refine Decidable.byContradiction fun h3 => h (b_ext fun i hi => ?_)
    rw [b_and, b_0]
    unfold sbit
    rw [b_bit (by omega) hi]
    by_cases e : i = v - 97
    · subst e; simp at h3; simp [h3]
    · simp [e]
  · intro h h3
    have h4 := b_and x (sbit v) (v - 97)
    rw [h3, b_0, h] at h4
    unfold sbit at h4
    rw [b_bit (by omega) (by omega)] at h4
    simp at h4
section PCame
variable {M : zz_M} {I : zz_I} {J : zz_J} {Q : zz_Q}
theorem sp_readSigns (d : Nat) (hO : OK M) {n : Nat} {by_ : Nat → Nat} (hn : I 2 1 = nI n) (hn2 : n ≤ 600) (hby : ∀ i, i < n → by_ i < 256 ∧ I 3 i = nI (by_ i))
    (h1 : ∀ L, rsg by_ n 0 [] = some L → L.length ≤ 6 → ∀ I' : zz_I, (∀ c, c ≠ 5 → I' c = I c) → (∀ i, i < L.length → I' 5 i = sbit (L.getD i 0)) → Q (some (.int (nI L.length))) M I' J)
    (h2 : (∀ L, rsg by_ n 0 [] = some L → 6 < L.length) → ∀ I' : zz_I, (∀ c, c ≠ 5 → I' c = I c) → Q (some (.int (-1))) M I' J) : zz_D mX8_readSigns (d + 1) [.ref 4, .ref 2] M I J Q := by
  generalize hP : rsg by_ n 0 [] = P0 at h1 h2
  refine zz_D_of rfl (Nat.le_of_ble_eq_true rfl) ?_
  try dsimp only [zz_s1, zz_s2, zz_kill, zz_ent, zz_fl, List.set_cons_zero, List.set_cons_succ, List.getElem?_cons_zero, List.getElem?_cons_succ, Option.toList_some, Option.toList_none, List.cons_append, List.nil_append, List.append_nil, List.length_cons, List.length_nil, List.replicate_succ, List.replicate_zero, Nat.reduceAdd, Nat.reduceSub]
  refine zz_iconst (v := 0) (by decide) dX8_readSigns_0 ?_
  refine zz_istore_n dX8_readSigns_1 (by decide) ?_
  refine zz_iconst (v := 0) (by decide) dX8_readSigns_2 ?_
  refine zz_istore_n dX8_readSigns_3 (by decide) ?_
  try dsimp only [zz_s1, zz_s2, zz_kill, zz_ent, zz_fl, List.set_cons_zero, List.set_cons_succ, List.getElem?_cons_zero, List.getElem?_cons_succ, Option.toList_some, Option.toList_none, List.cons_append, List.nil_append, List.append_nil, List.length_cons, List.length_nil, List.replicate_succ, List.replicate_zero, Nat.reduceAdd, Nat.reduceSub]
  have loop : ∀ (r k : Nat) (Ix : zz_I) (rd : List Nat) (z4 : Option Value), k + r = n → rd.length ≤ 6 → (∀ c, c ≠ 5 → Ix c = I c) → (∀ i, i < rd.length → Ix 5 i = sbit (rd.getD i 0)) → P0 = rsg by_ r k rd → zz_G mX8_readSigns (d + 1) 0 4 [some (.ref 4), some (.ref 2), some (.int (nI rd.length)), some (.int (nI k)), z4] [] M Ix J Q := by
    intro r
    induction r with
    | zero =>
      intro k Ix rd z4 hk hr g1 g2 hp
      have ek : k = n := by omega
      subst ek
      refine zz_iload_n rfl dX8_readSigns_4 ?_
      refine zz_aload_n rfl dX8_readSigns_5 ?_
      refine zz_geti dX8_readSigns_6 fX8_25 rfl (os_2 hO) ?_
      try dsimp only [zz_s1, zz_s2, zz_kill, zz_ent, zz_fl, List.set_cons_zero, List.set_cons_succ, List.getElem?_cons_zero, List.getElem?_cons_succ, Option.toList_some, Option.toList_none, List.cons_append, List.nil_append, List.append_nil, List.length_cons, List.length_nil, List.replicate_succ, List.replicate_zero, Nat.reduceAdd, Nat.reduceSub]
      rw [g1 2 (by decide), hn]
      refine zz_icmp_ge (tgt := 64) dX8_readSigns_9 (by decide) (fun h => ?_) (fun h => ?_)
      · refine zz_iload_n rfl dX8_readSigns_64 ?_
        refine zz_ireturn dX8_readSigns_65 rfl (by first | rfl | decide | assumption) ?_
        exact h1 rd hp hr Ix g1 g2
      · exact absurd (nI_le (Nat.le_refl k) (by omega)) h
    | succ r ih =>
      intro k Ix rd z4 hk hr g1 g2 hp
      have hbk : by_ k < 256 ∧ Ix 3 k = nI (by_ k) := by rw [g1 3 (by decide)]; exact hby k (by omega)
      unfold rsg at hp
      have bl : ∀ z4 : Option Value, ((by_ k = 32 ∨ by_ k = 10) → zz_G mX8_readSigns (d + 1) 0 58 [some (.ref 4), some (.ref 2), some (.int (nI rd.length)), some (.int (nI k)), z4] [] M Ix J Q) → (¬ (by_ k = 32 ∨ by_ k = 10) → ∀ L, P0 = some L → 6 < L.length) → zz_G mX8_readSigns (d + 1) 0 44 [some (.ref 4), some (.ref 2), some (.int (nI rd.length)), some (.int (nI k)), z4] [] M Ix J Q := by
        intro z4 b1 b2
        refine zz_aload_n rfl dX8_readSigns_44 ?_
        refine zz_getr dX8_readSigns_45 fX8_38 (fun _ _ _ _ => rfl) (os_2 hO) (or_2_0 hO) ?_
        refine zz_iload_n rfl dX8_readSigns_48 ?_
        refine zz_iald dX8_readSigns_49 (os_3 hO) (vp_in_nI (by omega) (by decide)) ?_
        try dsimp only [zz_s1, zz_s2, zz_kill, zz_ent, zz_fl, List.set_cons_zero, List.set_cons_succ, List.getElem?_cons_zero, List.getElem?_cons_succ, Option.toList_some, Option.toList_none, List.cons_append, List.nil_append, List.append_nil, List.length_cons, List.length_nil, List.replicate_succ, List.replicate_zero, Nat.reduceAdd, Nat.reduceSub]
        rw [nI_clamp (by omega), hbk.2]
        refine zz_cS1 dX8_readSigns_50 lX8_45 rfl (Nat.le_of_ble_eq_true rfl) (Nat.le_of_ble_eq_true rfl) ?_
        refine sp_isBlank d (fun r hr => ?_)
        try dsimp only [zz_s1, zz_s2, zz_kill, zz_ent, zz_fl, List.set_cons_zero, List.set_cons_succ, List.getElem?_cons_zero, List.getElem?_cons_succ, Option.toList_some, Option.toList_none, List.cons_append, List.nil_append, List.append_nil, List.length_cons, List.length_nil, List.replicate_succ, List.replicate_zero, Nat.reduceAdd, Nat.reduceSub]
        refine zz_if_ne (tgt := 58) dX8_readSigns_53 (by decide) (fun q1 => ?_) (fun q1 => ?_)
        · exact b1 ((hr.t q1).imp (fun z => (nI_eq (b := 32) (by omega) (by decide)).mp z) (fun z => (nI_eq (b := 10) (by omega) (by decide)).mp z))
        · skip
          refine zz_iconst (v := (-1)) (by decide) dX8_readSigns_56 ?_
          refine zz_ireturn dX8_readSigns_57 rfl (by first | rfl | decide | assumption) ?_
          exact h2 (b2 fun z => hr.f q1 (z.imp (fun z => by rw [z]; rfl) (fun z => by rw [z]; rfl))) Ix g1
      refine zz_iload_n rfl dX8_readSigns_4 ?_
      refine zz_aload_n rfl dX8_readSigns_5 ?_
      refine zz_geti dX8_readSigns_6 fX8_25 rfl (os_2 hO) ?_
      try dsimp only [zz_s1, zz_s2, zz_kill, zz_ent, zz_fl, List.set_cons_zero, List.set_cons_succ, List.getElem?_cons_zero, List.getElem?_cons_succ, Option.toList_some, Option.toList_none, List.cons_append, List.nil_append, List.append_nil, List.length_cons, List.length_nil, List.replicate_succ, List.replicate_zero, Nat.reduceAdd, Nat.reduceSub]
      rw [g1 2 (by decide), hn]
      refine zz_icmp_ge (tgt := 64) dX8_readSigns_9 (by decide) (fun h => ?_) (fun h => ?_)
      · exact absurd h (nI_ge (by omega) (by omega))
      · skip
        refine zz_aload_n rfl dX8_readSigns_12 ?_
        refine zz_iload_n rfl dX8_readSigns_13 ?_
        try dsimp only [zz_s1, zz_s2, zz_kill, zz_ent, zz_fl, List.set_cons_zero, List.set_cons_succ, List.getElem?_cons_zero, List.getElem?_cons_succ, Option.toList_some, Option.toList_none, List.cons_append, List.nil_append, List.append_nil, List.length_cons, List.length_nil, List.replicate_succ, List.replicate_zero, Nat.reduceAdd, Nat.reduceSub]
        refine zz_cS2 dX8_readSigns_14 lX8_30 rfl (Nat.le_of_ble_eq_true rfl) (Nat.le_of_ble_eq_true rfl) ?_
        refine sp_signAt d hO (show k < 600 by omega) hbk.1 hbk.2 (fun c1 c2 => ?_) (fun c1 => ?_)
        try dsimp only [zz_s1, zz_s2, zz_kill, zz_ent, zz_fl, List.set_cons_zero, List.set_cons_succ, List.getElem?_cons_zero, List.getElem?_cons_succ, Option.toList_some, Option.toList_none, List.cons_append, List.nil_append, List.append_nil, List.length_cons, List.length_nil, List.replicate_succ, List.replicate_zero, Nat.reduceAdd, Nat.reduceSub]
        · skip
          rw [if_neg (by omega), if_pos ⟨c1, c2⟩] at hp
          refine zz_istore dX8_readSigns_17 (by decide) ?_
          refine zz_iload rfl dX8_readSigns_19 ?_
          try dsimp only [zz_s1, zz_s2, zz_kill, zz_ent, zz_fl, List.set_cons_zero, List.set_cons_succ, List.getElem?_cons_zero, List.getElem?_cons_succ, Option.toList_some, Option.toList_none, List.cons_append, List.nil_append, List.append_nil, List.length_cons, List.length_nil, List.replicate_succ, List.replicate_zero, Nat.reduceAdd, Nat.reduceSub]
          refine zz_if_eq (tgt := 44) dX8_readSigns_21 (by decide) (fun h3 => ?_) (fun h3 => ?_)
          · exact absurd h3 (sbit_nz c1 c2)
          · skip
            refine zz_iload_n rfl dX8_readSigns_24 ?_
            refine zz_bipush (v := 6) (by decide) dX8_readSigns_25 ?_
            try dsimp only [zz_s1, zz_s2, zz_kill, zz_ent, zz_fl, List.set_cons_zero, List.set_cons_succ, List.getElem?_cons_zero, List.getElem?_cons_succ, Option.toList_some, Option.toList_none, List.cons_append, List.nil_append, List.append_nil, List.length_cons, List.length_nil, List.replicate_succ, List.replicate_zero, Nat.reduceAdd, Nat.reduceSub]
            refine zz_icmp_ge (tgt := 44) dX8_readSigns_27 (by decide) (fun h4 => ?_) (fun h4 => ?_)
            · refine bl _ (fun z => by omega) (fun _ L hL => ?_)
              have e6 : 6 ≤ rd.length := (nI_leI (a := 6) (by decide) (by omega)).mp h4
              have := rsg_len by_ r (k + 1) _ L (hp.symm.trans hL)
              simp at this
              omega
            · skip
              have e6 : rd.length < 6 := Nat.lt_of_not_le fun z => h4 (nI_le (a := 6) z (by omega))
              refine zz_aload_n rfl dX8_readSigns_30 ?_
              refine zz_getr dX8_readSigns_31 fX8_9 (fun _ _ _ _ => rfl) (os_4 hO) (or_4_0 hO) ?_
              refine zz_iload_n rfl dX8_readSigns_34 ?_
              refine zz_iload rfl dX8_readSigns_35 ?_
              refine zz_iast dX8_readSigns_37 (os_5 hO) (vp_in_nI (by omega) (by decide)) ?_
              refine zz_iinc dX8_readSigns_38 rfl (congrArg (HAdd.hAdd _) (show Int32.ofInt 1 = 1 by decide)) (by decide) ?_
              refine zz_goto (tgt := 58) dX8_readSigns_41 (by decide) ?_
              refine zz_iinc dX8_readSigns_58 rfl (congrArg (HAdd.hAdd _) (show Int32.ofInt 1 = 1 by decide)) (by decide) ?_
              refine zz_goto (tgt := 4) dX8_readSigns_61 (by decide) ?_
              try dsimp only [zz_s1, zz_s2, zz_kill, zz_ent, zz_fl, List.set_cons_zero, List.set_cons_succ, List.getElem?_cons_zero, List.getElem?_cons_succ, Option.toList_some, Option.toList_none, List.cons_append, List.nil_append, List.append_nil, List.length_cons, List.length_nil, List.replicate_succ, List.replicate_zero, Nat.reduceAdd, Nat.reduceSub]
              rw [nI_clamp (by omega), nI_1, nI_1]
              have hlen : (rd ++ [by_ k]).length = rd.length + 1 := by simp
              rw [← hlen]
              refine ih (k + 1) _ (rd ++ [by_ k]) _ (by omega) (by omega) (fun c c1 => ?_) (fun i hi => ?_) hp
              · rw [zz_ui_ne _ _ _ c1]; exact g1 c c1
              · rw [zz_ui_at, gDn (by omega)]
                by_cases e : i = rd.length
                · subst e; simp [upd]
                · rw [pk_un e, if_neg e]; exact g2 i (by omega)
        · try dsimp only [zz_s1, zz_s2, zz_kill, zz_ent, zz_fl, List.set_cons_zero, List.set_cons_succ, List.getElem?_cons_zero, List.getElem?_cons_succ, Option.toList_some, Option.toList_none, List.cons_append, List.nil_append, List.append_nil, List.length_cons, List.length_nil, List.replicate_succ, List.replicate_zero, Nat.reduceAdd, Nat.reduceSub]
          refine zz_istore dX8_readSigns_17 (by decide) ?_
          refine zz_iload rfl dX8_readSigns_19 ?_
          try dsimp only [zz_s1, zz_s2, zz_kill, zz_ent, zz_fl, List.set_cons_zero, List.set_cons_succ, List.getElem?_cons_zero, List.getElem?_cons_succ, Option.toList_some, Option.toList_none, List.cons_append, List.nil_append, List.append_nil, List.length_cons, List.length_nil, List.replicate_succ, List.replicate_zero, Nat.reduceAdd, Nat.reduceSub]
          refine zz_if_eq (tgt := 44) dX8_readSigns_21 (by decide) (fun h3 => ?_) (fun h3 => ?_)
          · refine bl _ (fun z => ?_) (fun z L hL => ?_)
            · rw [if_pos z] at hp
              refine zz_iinc dX8_readSigns_58 rfl (congrArg (HAdd.hAdd _) (show Int32.ofInt 1 = 1 by decide)) (by decide) ?_
              refine zz_goto (tgt := 4) dX8_readSigns_61 (by decide) ?_
              try dsimp only [zz_s1, zz_s2, zz_kill, zz_ent, zz_fl, List.set_cons_zero, List.set_cons_succ, List.getElem?_cons_zero, List.getElem?_cons_succ, Option.toList_some, Option.toList_none, List.cons_append, List.nil_append, List.append_nil, List.length_cons, List.length_nil, List.replicate_succ, List.replicate_zero, Nat.reduceAdd, Nat.reduceSub]
              rw [nI_1]
              exact ih (k + 1) Ix rd _ (by omega) hr g1 g2 hp
            · rw [if_neg z, if_neg c1, hL] at hp
              cases hp
          · exact absurd rfl h3
  exact loop n 0 I [] _ (by omega) (by simp) (fun _ _ => rfl) (fun i hi => absurd hi (by simp)) hP.symm
theorem sp_couldMake (d : Nat) (hO : OK M) {j nn k : Nat} {sg : Nat → Int32} {L : List Nat} (hj : j < 8) (hn1 : 1 ≤ nn) (hn : nn ≤ 24) (h1 : I (LN j) 1 = nI nn) (h2 : ∀ a, a < 24 → I (LN j + 2) a = sg a) (hk : k ≤ 6) (h3 : I 24 2 = nI k) (h4 : ∀ i, i < k → I 5 i = sbit (L.getD i 0)) {w : Nat} (hw : w < 2 ^ 31) (hQ : ∀ r : Int32, bo r (mkB nn sg L k w = true) → Q (some (.int r)) M I J) : zz_D mX9_couldMake (d + 1) [.ref 1, .ref (LN j), .int (nI w)] M I J Q := by
  refine zz_D_of rfl (Nat.le_of_ble_eq_true rfl) ?_
  try dsimp only [zz_s1, zz_s2, zz_kill, zz_ent, zz_fl, List.set_cons_zero, List.set_cons_succ, List.getElem?_cons_zero, List.getElem?_cons_succ, Option.toList_some, Option.toList_none, List.cons_append, List.nil_append, List.append_nil, List.length_cons, List.length_nil, List.replicate_succ, List.replicate_zero, Nat.reduceAdd, Nat.reduceSub]
  refine zz_iload_n rfl dX9_couldMake_0 ?_
  refine zz_istore_n dX9_couldMake_1 (by decide) ?_
  refine zz_aload_n rfl dX9_couldMake_2 ?_
  refine zz_getr dX9_couldMake_3 fX9_71 (fun _ _ _ _ => rfl) (os_1 hO) (or_1_9 hO) ?_
  refine zz_geti dX9_couldMake_6 fX9_265 rfl (os_24 hO) ?_
  refine zz_iconst (v := 1) (by decide) dX9_couldMake_9 ?_
  refine zz_isub dX9_couldMake_10 ?_
  refine zz_istore dX9_couldMake_11 (by decide) ?_
  try dsimp only [zz_s1, zz_s2, zz_kill, zz_ent, zz_fl, List.set_cons_zero, List.set_cons_succ, List.getElem?_cons_zero, List.getElem?_cons_succ, Option.toList_some, Option.toList_none, List.cons_append, List.nil_append, List.append_nil, List.length_cons, List.length_nil, List.replicate_succ, List.replicate_zero, Nat.reduceAdd, Nat.reduceSub]
  rw [h3, show nI k - 1 = nI k + (-1) from Int32.sub_eq_add_neg _ _]
  have loop : ∀ (q x : Nat) (z5 : Option Value), q ≤ k → x < 2 ^ 31 → (∀ r : Int32, bo r (mkB nn sg L q x = true) → Q (some (.int r)) M I J) → zz_G mX9_couldMake (d + 1) 0 13 [some (.ref 1), some (.ref (LN j)), some (.int (nI w)), some (.int (nI x)), some (.int (nI q + (-1))), z5] [] M I J Q := by
    intro q
    induction q with
    | zero =>
      intro x z5 hq hx hr
      refine zz_iload rfl dX9_couldMake_13 ?_
      try dsimp only [zz_s1, zz_s2, zz_kill, zz_ent, zz_fl, List.set_cons_zero, List.set_cons_succ, List.getElem?_cons_zero, List.getElem?_cons_succ, Option.toList_some, Option.toList_none, List.cons_append, List.nil_append, List.append_nil, List.length_cons, List.length_nil, List.replicate_succ, List.replicate_zero, Nat.reduceAdd, Nat.reduceSub]
      refine zz_if_lt (tgt := 66) dX9_couldMake_15 (by decide) (fun h => ?_) (fun h => ?_)
      · refine zz_iconst (v := 1) (by decide) dX9_couldMake_66 ?_
        refine zz_ireturn dX9_couldMake_67 rfl (by first | rfl | decide | assumption) ?_
        exact hr 1 (bo.one rfl)
      · exact absurd nI_d0 h
    | succ q ih =>
      intro x z5 hq hx hr
      have hxm : x % nn < 24 := Nat.lt_of_lt_of_le (Nat.mod_lt _ (by omega)) hn
      rw [nI_dn]
      refine zz_iload rfl dX9_couldMake_13 ?_
      try dsimp only [zz_s1, zz_s2, zz_kill, zz_ent, zz_fl, List.set_cons_zero, List.set_cons_succ, List.getElem?_cons_zero, List.getElem?_cons_succ, Option.toList_some, Option.toList_none, List.cons_append, List.nil_append, List.append_nil, List.length_cons, List.length_nil, List.replicate_succ, List.replicate_zero, Nat.reduceAdd, Nat.reduceSub]
      refine zz_if_lt (tgt := 66) dX9_couldMake_15 (by decide) (fun h => ?_) (fun h => ?_)
      · exact absurd h (nI_nn (by omega))
      · skip
        refine zz_iload_n rfl dX9_couldMake_18 ?_
        refine zz_aload_n rfl dX9_couldMake_19 ?_
        refine zz_geti dX9_couldMake_20 fX9_144 rfl (ol_obj hO hj) ?_
        try dsimp only [zz_s1, zz_s2, zz_kill, zz_ent, zz_fl, List.set_cons_zero, List.set_cons_succ, List.getElem?_cons_zero, List.getElem?_cons_succ, Option.toList_some, Option.toList_none, List.cons_append, List.nil_append, List.append_nil, List.length_cons, List.length_nil, List.replicate_succ, List.replicate_zero, Nat.reduceAdd, Nat.reduceSub]
        rw [h1]
        refine zz_cS2 dX9_couldMake_23 lX9_176 rfl (Nat.le_of_ble_eq_true rfl) (Nat.le_of_ble_eq_true rfl) ?_
        refine sp_remainder d hx (by omega) (by omega) ?_
        try dsimp only [zz_s1, zz_s2, zz_kill, zz_ent, zz_fl, List.set_cons_zero, List.set_cons_succ, List.getElem?_cons_zero, List.getElem?_cons_succ, Option.toList_some, Option.toList_none, List.cons_append, List.nil_append, List.append_nil, List.length_cons, List.length_nil, List.replicate_succ, List.replicate_zero, Nat.reduceAdd, Nat.reduceSub]
        refine zz_istore dX9_couldMake_26 (by decide) ?_
        refine zz_aload_n rfl dX9_couldMake_28 ?_
        refine zz_getr dX9_couldMake_29 fX9_284 (fun _ _ _ _ => rfl) (ol_obj hO hj) (olr_signs hO hj) ?_
        refine zz_iload rfl dX9_couldMake_32 ?_
        refine zz_iald dX9_couldMake_34 (ol_signs hO hj) (vp_in_nI hxm (by decide)) ?_
        refine zz_aload_n rfl dX9_couldMake_35 ?_
        refine zz_getr dX9_couldMake_36 fX9_19 (fun _ _ _ _ => rfl) (os_1 hO) (or_1_1 hO) ?_
        refine zz_getr dX9_couldMake_39 fX9_137 (fun _ _ _ _ => rfl) (os_4 hO) (or_4_0 hO) ?_
        refine zz_iload rfl dX9_couldMake_42 ?_
        refine zz_iald dX9_couldMake_44 (os_5 hO) (vp_in_nI (by omega) (by decide)) ?_
        refine zz_iand dX9_couldMake_45 ?_
        try dsimp only [zz_s1, zz_s2, zz_kill, zz_ent, zz_fl, List.set_cons_zero, List.set_cons_succ, List.getElem?_cons_zero, List.getElem?_cons_succ, Option.toList_some, Option.toList_none, List.cons_append, List.nil_append, List.append_nil, List.length_cons, List.length_nil, List.replicate_succ, List.replicate_zero, Nat.reduceAdd, Nat.reduceSub]
        rw [nI_clamp (by omega), nI_clamp (by omega), h2 _ hxm, h4 q (by omega)]
        have hd : x / nn < 2 ^ 31 := Nat.lt_of_le_of_lt (Nat.div_le_self _ _) hx
        refine zz_if_ne (tgt := 51) dX9_couldMake_46 (by decide) (fun h5 => ?_) (fun h5 => ?_)
        · refine zz_iload_n rfl dX9_couldMake_51 ?_
          refine zz_aload_n rfl dX9_couldMake_52 ?_
          refine zz_geti dX9_couldMake_53 fX9_144 rfl (ol_obj hO hj) ?_
          try dsimp only [zz_s1, zz_s2, zz_kill, zz_ent, zz_fl, List.set_cons_zero, List.set_cons_succ, List.getElem?_cons_zero, List.getElem?_cons_succ, Option.toList_some, Option.toList_none, List.cons_append, List.nil_append, List.append_nil, List.length_cons, List.length_nil, List.replicate_succ, List.replicate_zero, Nat.reduceAdd, Nat.reduceSub]
          rw [h1]
          refine zz_cS2 dX9_couldMake_56 lX9_182 rfl (Nat.le_of_ble_eq_true rfl) (Nat.le_of_ble_eq_true rfl) ?_
          refine sp_quotient d hx (by omega) (by omega) ?_
          try dsimp only [zz_s1, zz_s2, zz_kill, zz_ent, zz_fl, List.set_cons_zero, List.set_cons_succ, List.getElem?_cons_zero, List.getElem?_cons_succ, Option.toList_some, Option.toList_none, List.cons_append, List.nil_append, List.append_nil, List.length_cons, List.length_nil, List.replicate_succ, List.replicate_zero, Nat.reduceAdd, Nat.reduceSub]
          refine zz_istore_n dX9_couldMake_59 (by decide) ?_
          refine zz_iinc dX9_couldMake_60 rfl (congrArg (HAdd.hAdd _) (show Int32.ofInt (-1) = (-1) by decide)) (by decide) ?_
          refine zz_goto (tgt := 13) dX9_couldMake_63 (by decide) ?_
          try dsimp only [zz_s1, zz_s2, zz_kill, zz_ent, zz_fl, List.set_cons_zero, List.set_cons_succ, List.getElem?_cons_zero, List.getElem?_cons_succ, Option.toList_some, Option.toList_none, List.cons_append, List.nil_append, List.append_nil, List.length_cons, List.length_nil, List.replicate_succ, List.replicate_zero, Nat.reduceAdd, Nat.reduceSub]
          refine ih (x / nn) _ (by omega) hd (fun r hr2 => hr r (hr2.iff ?_))
          exact ⟨fun z => mkB_s.mpr ⟨h5, z⟩, fun z => (mkB_s.mp z).2⟩
        · skip
          refine zz_iconst (v := 0) (by decide) dX9_couldMake_49 ?_
          refine zz_ireturn dX9_couldMake_50 rfl (by first | rfl | decide | assumption) ?_
          exact hr 0 (bo.zero fun z => (mkB_s.mp z).1 h5)
  exact loop k w _ (Nat.le_refl _) hw hQ
end PCame

