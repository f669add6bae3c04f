/-! ===== reading what is told ===== -/
def sbit (v : Nat) : Int32 := (1 : Int32) <<< (nI (v - 97) &&& 31)
/-- a fault and its place, or the letters' signs -/
def prs (by_ : Nat → Nat) (n : Nat) : Nat → Nat → Int32 → List Int32 → (Int32 × Int32) ⊕ List Int32
  | 0, _, set, rd => if set = 0 then .inl (2, nI n) else .inr (rd ++ [set])
  | r + 1, k, set, rd =>
    if by_ k = 32 ∨ by_ k = 10 then prs by_ n r (k + 1) set rd
    else if by_ k = 59 then (if set = 0 then .inl (2, nI k) else if rd.length = 23 then .inl (3, nI k) else prs by_ n r (k + 1) 0 (rd ++ [set]))
    else if 97 ≤ by_ k ∧ by_ k ≤ 120 then (if ¬ (set &&& sbit (by_ k) = 0) then .inl (4, nI k) else prs by_ n r (k + 1) (set ||| sbit (by_ k)) rd)
    else .inl (1, nI k)
def rdok (I : zz_I) : (Int32 × Int32) ⊕ List Int32 → Prop
  | .inl (f, p) => I 4 2 = f ∧ I 4 3 = p ∧ ¬ f = 0
  | .inr L => I 4 2 = 0 ∧ I 4 3 = -1 ∧ I 4 1 = nI L.length ∧ ∀ i, i < L.length → I 5 i = L.getD i 0
theorem sbit_nz {v : Nat} (h1 : 97 ≤ v) (h2 : v ≤ 120) : ¬ sbit v = 0 := by
  intro h
  have h3 := b_bit (b := v - 97) (y := v - 97) (by omega) (by omega)
  rw [show (1 : Int32) <<< (nI (v - 97) &&& 31) = sbit v from rfl, h, b_0] at h3
  simp at h3
theorem getD_app {L : List Int32} {x : Int32} {i : Nat} (h : i < L.length + 1) : (L ++ [x]).getD i 0 = if i = L.length then x else L.getD i 0 := by
  by_cases e : i = L.length
  · subst e; simp
  · rw [if_neg e]
    have : i < L.length := by omega
    simp [List.getElem?_append_left this]
section PRead
variable {M : zz_M} {I : zz_I} {J : zz_J} {Q : zz_Q}
theorem sp_blameIf (d : Nat) (hO : OK M) {w a b : Int32} (h1 : ¬ w = 0 → I 4 2 = 0 → Q none M (zz_ui (zz_ui I 4 2 a) 4 3 b) J) (h2 : w = 0 ∨ ¬ I 4 2 = 0 → Q none M I J) : zz_D mX8_blameIf d [.ref 4, .int w, .int a, .int b] M I J Q := by
  refine zz_D_of rfl (Nat.le_of_ble_eq_true rfl) ?_
  try dsimp only [zz_s1, zz_s2, zz_kill, zz_ent, zz_fl, List.set_cons_zero, List.set_cons_succ, List.getElem?_cons_zero, List.getElem?_cons_succ, Option.toList_some, Option.toList_none, List.cons_append, List.nil_append, List.append_nil, List.length_cons, List.length_nil, List.replicate_succ, List.replicate_zero, Nat.reduceAdd, Nat.reduceSub]
  refine zz_iload_n rfl dX8_blameIf_0 ?_
  try dsimp only [zz_s1, zz_s2, zz_kill, zz_ent, zz_fl, List.set_cons_zero, List.set_cons_succ, List.getElem?_cons_zero, List.getElem?_cons_succ, Option.toList_some, Option.toList_none, List.cons_append, List.nil_append, List.append_nil, List.length_cons, List.length_nil, List.replicate_succ, List.replicate_zero, Nat.reduceAdd, Nat.reduceSub]
  refine zz_if_eq (tgt := 21) dX8_blameIf_1 (by decide) (fun h => ?_) (fun h => ?_)
  · refine zz_return dX8_blameIf_21 rfl ?_
    exact h2 (Or.inl h)
  · skip
    refine zz_aload_n rfl dX8_blameIf_4 ?_
    refine zz_geti dX8_blameIf_5 fX8_19 rfl (os_4 hO) ?_
    try dsimp only [zz_s1, zz_s2, zz_kill, zz_ent, zz_fl, List.set_cons_zero, List.set_cons_succ, List.getElem?_cons_zero, List.getElem?_cons_succ, Option.toList_some, Option.toList_none, List.cons_append, List.nil_append, List.append_nil, List.length_cons, List.length_nil, List.replicate_succ, List.replicate_zero, Nat.reduceAdd, Nat.reduceSub]
    refine zz_if_ne (tgt := 21) dX8_blameIf_8 (by decide) (fun h3 => ?_) (fun h3 => ?_)
    · refine zz_return dX8_blameIf_21 rfl ?_
      exact h2 (Or.inr h3)
    · skip
      refine zz_aload_n rfl dX8_blameIf_11 ?_
      refine zz_iload_n rfl dX8_blameIf_12 ?_
      refine zz_puti dX8_blameIf_13 fX8_19 rfl (fun q h => by cases h; rfl) (os_4 hO) ?_
      refine zz_aload_n rfl dX8_blameIf_16 ?_
      refine zz_iload_n rfl dX8_blameIf_17 ?_
      refine zz_puti dX8_blameIf_18 fX8_22 rfl (fun q h => by cases h; rfl) (os_4 hO) ?_
      refine zz_return dX8_blameIf_21 rfl ?_
      exact h1 h h3
theorem sp_close (d : Nat) (hO : OK M) {w : Int32} {m : Nat} (hm : I 4 1 = nI m) (hm2 : m < 24) (h1 : I 4 2 = 0 → Q none M (zz_ui (zz_ui I 5 m w) 4 1 (nI (m + 1))) J) (h2 : ¬ I 4 2 = 0 → Q none M I J) : zz_D mX8_close d [.ref 4, .int w] M I J Q := by
  refine zz_D_of rfl (Nat.le_of_ble_eq_true rfl) ?_
  try dsimp only [zz_s1, zz_s2, zz_kill, zz_ent, zz_fl, List.set_cons_zero, List.set_cons_succ, List.getElem?_cons_zero, List.getElem?_cons_succ, Option.toList_some, Option.toList_none, List.cons_append, List.nil_append, List.append_nil, List.length_cons, List.length_nil, List.replicate_succ, List.replicate_zero, Nat.reduceAdd, Nat.reduceSub]
  refine zz_aload_n rfl dX8_close_0 ?_
  refine zz_geti dX8_close_1 fX8_19 rfl (os_4 hO) ?_
  try dsimp only [zz_s1, zz_s2, zz_kill, zz_ent, zz_fl, List.set_cons_zero, List.set_cons_succ, List.getElem?_cons_zero, List.getElem?_cons_succ, Option.toList_some, Option.toList_none, List.cons_append, List.nil_append, List.append_nil, List.length_cons, List.length_nil, List.replicate_succ, List.replicate_zero, Nat.reduceAdd, Nat.reduceSub]
  refine zz_if_ne (tgt := 36) dX8_close_4 (by decide) (fun h => ?_) (fun h => ?_)
  · refine zz_return dX8_close_36 rfl ?_
    exact h2 h
  · skip
    refine zz_aload_n rfl dX8_close_7 ?_
    refine zz_geti dX8_close_8 fX8_15 rfl (os_4 hO) ?_
    refine zz_bipush (v := 24) (by decide) dX8_close_11 ?_
    try dsimp only [zz_s1, zz_s2, zz_kill, zz_ent, zz_fl, List.set_cons_zero, List.set_cons_succ, List.getElem?_cons_zero, List.getElem?_cons_succ, Option.toList_some, Option.toList_none, List.cons_append, List.nil_append, List.append_nil, List.length_cons, List.length_nil, List.replicate_succ, List.replicate_zero, Nat.reduceAdd, Nat.reduceSub]
    rw [hm]
    refine zz_icmp_ge (tgt := 36) dX8_close_13 (by decide) (fun h3 => ?_) (fun h3 => ?_)
    · exact absurd h3 (nI_ge (b := 24) hm2 (by decide))
    · skip
      refine zz_aload_n rfl dX8_close_16 ?_
      refine zz_getr dX8_close_17 fX8_9 (fun _ _ _ _ => rfl) (os_4 hO) (or_4_0 hO) ?_
      refine zz_aload_n rfl dX8_close_20 ?_
      refine zz_geti dX8_close_21 fX8_15 rfl (os_4 hO) ?_
      refine zz_iload_n rfl dX8_close_24 ?_
      refine zz_iast dX8_close_25 (os_5 hO) (by rw [hm]; exact vp_in_nI hm2 (by decide)) ?_
      refine zz_aload_n rfl dX8_close_26 ?_
      refine zz_dup rfl dX8_close_27 ?_
      refine zz_geti dX8_close_28 fX8_15 rfl (os_4 hO) ?_
      refine zz_iconst (v := 1) (by decide) dX8_close_31 ?_
      refine zz_iadd dX8_close_32 ?_
      refine zz_puti dX8_close_33 fX8_15 rfl (fun q h => by cases h; rfl) (os_4 hO) ?_
      refine zz_return dX8_close_36 rfl ?_
      rw [hm, nI_clamp (by omega), zz_ui_ne _ _ _ (by decide), hm, nI_1]
      exact h1 h
theorem sp_isBlank (d : Nat) {w : Int32} (hQ : ∀ r : Int32, bo r (w = 32 ∨ w = 10) → Q (some (.int r)) M I J) : zz_D mX8_isBlank d [.int w] M I J Q := by
  refine zz_D_of rfl (Nat.le_of_ble_eq_true rfl) ?_
  try dsimp only [zz_s1, zz_s2, zz_kill, zz_ent, zz_fl, List.set_cons_zero, List.set_cons_succ, List.getElem?_cons_zero, List.getElem?_cons_succ, Option.toList_some, Option.toList_none, List.cons_append, List.nil_append, List.append_nil, List.length_cons, List.length_nil, List.replicate_succ, List.replicate_zero, Nat.reduceAdd, Nat.reduceSub]
  refine zz_iload_n rfl dX8_isBlank_0 ?_
  refine zz_bipush (v := 32) (by decide) dX8_isBlank_1 ?_
  try dsimp only [zz_s1, zz_s2, zz_kill, zz_ent, zz_fl, List.set_cons_zero, List.set_cons_succ, List.getElem?_cons_zero, List.getElem?_cons_succ, Option.toList_some, Option.toList_none, List.cons_append, List.nil_append, List.append_nil, List.length_cons, List.length_nil, List.replicate_succ, List.replicate_zero, Nat.reduceAdd, Nat.reduceSub]
  refine zz_icmp_eq (tgt := 12) dX8_isBlank_3 (by decide) (fun h => ?_) (fun h => ?_)
  · refine zz_iconst (v := 1) (by decide) dX8_isBlank_12 ?_
    refine zz_goto (tgt := 17) dX8_isBlank_13 (by decide) ?_
    refine zz_ireturn dX8_isBlank_17 rfl (by first | rfl | decide | assumption) ?_
    exact hQ 1 (bo.one (Or.inl h))
  · skip
    refine zz_iload_n rfl dX8_isBlank_6 ?_
    refine zz_bipush (v := 10) (by decide) dX8_isBlank_7 ?_
    try dsimp only [zz_s1, zz_s2, zz_kill, zz_ent, zz_fl, List.set_cons_zero, List.set_cons_succ, List.getElem?_cons_zero, List.getElem?_cons_succ, Option.toList_some, Option.toList_none, List.cons_append, List.nil_append, List.append_nil, List.length_cons, List.length_nil, List.replicate_succ, List.replicate_zero, Nat.reduceAdd, Nat.reduceSub]
    refine zz_icmp_ne (tgt := 16) dX8_isBlank_9 (by decide) (fun h2 => ?_) (fun h2 => ?_)
    · refine zz_iconst (v := 0) (by decide) dX8_isBlank_16 ?_
      refine zz_ireturn dX8_isBlank_17 rfl (by first | rfl | decide | assumption) ?_
      exact hQ 0 (bo.zero fun q => q.elim h h2)
    · skip
      refine zz_iconst (v := 1) (by decide) dX8_isBlank_12 ?_
      refine zz_goto (tgt := 17) dX8_isBlank_13 (by decide) ?_
      refine zz_ireturn dX8_isBlank_17 rfl (by first | rfl | decide | assumption) ?_
      exact hQ 1 (bo.one (Or.inr h2))
theorem sp_signAt (d : Nat) (hO : OK M) {i v : Nat} (hi : i < 600) (hv : v < 256) (hb : I 3 i = nI v) (h1 : 97 ≤ v → v ≤ 120 → Q (some (.int (sbit v))) M I J) (h2 : ¬ (97 ≤ v ∧ v ≤ 120) → Q (some (.int 0)) M I J) : zz_D mX8_signAt d [.ref 2, .int (nI i)] M I J Q := by
  have e97 : (97 : Int32) = nI 97 := rfl
  refine zz_D_of rfl (Nat.le_of_ble_eq_true rfl) ?_
  try dsimp only [zz_s1, zz_s2, zz_kill, zz_ent, zz_fl, List.set_cons_zero, List.set_cons_succ, List.getElem?_cons_zero, List.getElem?_cons_succ, Option.toList_some, Option.toList_none, List.cons_append, List.nil_append, List.append_nil, List.length_cons, List.length_nil, List.replicate_succ, List.replicate_zero, Nat.reduceAdd, Nat.reduceSub]
  refine zz_aload_n rfl dX8_signAt_0 ?_
  refine zz_getr dX8_signAt_1 fX8_38 (fun _ _ _ _ => rfl) (os_2 hO) (or_2_0 hO) ?_
  refine zz_iload_n rfl dX8_signAt_4 ?_
  refine zz_iald dX8_signAt_5 (os_3 hO) (vp_in_nI hi (by decide)) ?_
  refine zz_bipush (v := 97) (by decide) dX8_signAt_6 ?_
  refine zz_isub dX8_signAt_8 ?_
  refine zz_istore_n dX8_signAt_9 (by decide) ?_
  refine zz_iload_n rfl dX8_signAt_10 ?_
  try dsimp only [zz_s1, zz_s2, zz_kill, zz_ent, zz_fl, List.set_cons_zero, List.set_cons_succ, List.getElem?_cons_zero, List.getElem?_cons_succ, Option.toList_some, Option.toList_none, List.cons_append, List.nil_append, List.append_nil, List.length_cons, List.length_nil, List.replicate_succ, List.replicate_zero, Nat.reduceAdd, Nat.reduceSub]
  rw [nI_clamp (by omega), hb]
  by_cases h97 : 97 ≤ v
  · rw [e97, pk_sub h97]
    refine zz_if_lt (tgt := 20) dX8_signAt_11 (by decide) (fun h => ?_) (fun h => ?_)
    · exact absurd h (nI_pos (by omega))
    · skip
      refine zz_iload_n rfl dX8_signAt_14 ?_
      refine zz_bipush (v := 24) (by decide) dX8_signAt_15 ?_
      try dsimp only [zz_s1, zz_s2, zz_kill, zz_ent, zz_fl, List.set_cons_zero, List.set_cons_succ, List.getElem?_cons_zero, List.getElem?_cons_succ, Option.toList_some, Option.toList_none, List.cons_append, List.nil_append, List.append_nil, List.length_cons, List.length_nil, List.replicate_succ, List.replicate_zero, Nat.reduceAdd, Nat.reduceSub]
      refine zz_icmp_lt (tgt := 24) dX8_signAt_17 (by decide) (fun h3 => ?_) (fun h3 => ?_)
      · refine zz_iconst (v := 1) (by decide) dX8_signAt_24 ?_
        refine zz_iload_n rfl dX8_signAt_25 ?_
        refine zz_ishl dX8_signAt_26 ?_
        refine zz_ireturn dX8_signAt_27 rfl (by first | rfl | decide | assumption) ?_
        have : v - 97 < 24 := (nI_ltI (by omega) (by omega)).mp h3
        exact h1 h97 (by omega)
      · skip
        refine zz_iconst (v := 0) (by decide) dX8_signAt_20 ?_
        refine zz_goto (tgt := 27) dX8_signAt_21 (by decide) ?_
        refine zz_ireturn dX8_signAt_27 rfl (by first | rfl | decide | assumption) ?_
        refine h2 (fun q => h3 (nI_lt (b := 24) (by omega) (by decide)))
  · skip
    refine zz_if_lt (tgt := 20) dX8_signAt_11 (by decide) (fun h => ?_) (fun h => ?_)
    · refine zz_iconst (v := 0) (by decide) dX8_signAt_20 ?_
      refine zz_goto (tgt := 27) dX8_signAt_21 (by decide) ?_
      refine zz_ireturn dX8_signAt_27 rfl (by first | rfl | decide | assumption) ?_
      exact h2 (fun q => h97 q.1)
    · exact absurd (pk_sneg (a := v) (b := 97) (by decide) (by omega)) h
theorem sp_X8_read (d : Nat) (hO : OK M) {n : Nat} {by_ : Nat → Nat} (hn : I 2 1 = nI n) (hn2 : n ≤ 600) (hby : ∀ i, i < n → by_ i < 256 ∧ I 3 i = nI (by_ i)) (hQ : ∀ I' : zz_I, (∀ c, c ≠ 4 → c ≠ 5 → I' c = I c) → rdok I' (prs by_ n n 0 0 []) → Q none M I' J) : zz_D mX8_read (d + 1) [.ref 4, .ref 2] M I J Q := by
  refine zz_D_of rfl (Nat.le_of_ble_eq_true rfl) ?_
  try dsimp only [zz_s1, zz_s2, zz_kill, zz_ent, zz_fl, List.set_cons_zero, List.set_cons_succ, List.getElem?_cons_zero, List.getElem?_cons_succ, Option.toList_some, Option.toList_none, List.cons_append, List.nil_append, List.append_nil, List.length_cons, List.length_nil, List.replicate_succ, List.replicate_zero, Nat.reduceAdd, Nat.reduceSub]
  refine zz_aload_n rfl dX8_read_0 ?_
  refine zz_iconst (v := 0) (by decide) dX8_read_1 ?_
  refine zz_puti dX8_read_2 fX8_15 rfl (fun q h => by cases h; rfl) (os_4 hO) ?_
  refine zz_aload_n rfl dX8_read_5 ?_
  refine zz_iconst (v := 0) (by decide) dX8_read_6 ?_
  refine zz_puti dX8_read_7 fX8_19 rfl (fun q h => by cases h; rfl) (os_4 hO) ?_
  refine zz_aload_n rfl dX8_read_10 ?_
  refine zz_iconst (v := (-1)) (by decide) dX8_read_11 ?_
  refine zz_puti dX8_read_12 fX8_22 rfl (fun q h => by cases h; rfl) (os_4 hO) ?_
  refine zz_iconst (v := 0) (by decide) dX8_read_15 ?_
  refine zz_istore_n dX8_read_16 (by decide) ?_
  refine zz_iconst (v := 0) (by decide) dX8_read_17 ?_
  refine zz_istore_n dX8_read_18 (by decide) ?_
  try dsimp only [zz_s1, zz_s2, zz_kill, zz_ent, zz_fl, List.set_cons_zero, List.set_cons_succ, List.getElem?_cons_zero, List.getElem?_cons_succ, Option.toList_some, Option.toList_none, List.cons_append, List.nil_append, List.append_nil, List.length_cons, List.length_nil, List.replicate_succ, List.replicate_zero, Nat.reduceAdd, Nat.reduceSub]
  have fin : ∀ (Ix : zz_I) (iv set : Int32) (z : Option Value), Ix 2 1 = nI n → ¬ Ix 4 2 = 0 → (∃ m, m < 24 ∧ Ix 4 1 = nI m) → Q none M Ix J → zz_G mX8_read (d + 1) 0 159 [some (.ref 4), some (.ref 2), some (.int set), some (.int iv), z] [] M Ix J Q := by
    intro Ix iv set z g0 g1 ⟨m, hm, hm2⟩ hq
    refine zz_aload_n rfl dX8_read_159 ?_
    refine zz_iload_n rfl dX8_read_160 ?_
    try dsimp only [zz_s1, zz_s2, zz_kill, zz_ent, zz_fl, List.set_cons_zero, List.set_cons_succ, List.getElem?_cons_zero, List.getElem?_cons_succ, Option.toList_some, Option.toList_none, List.cons_append, List.nil_append, List.append_nil, List.length_cons, List.length_nil, List.replicate_succ, List.replicate_zero, Nat.reduceAdd, Nat.reduceSub]
    have key : ∀ r : Int32, zz_G mX8_read (d + 1) 0 169 [some (.ref 4), some (.ref 2), some (.int set), some (.int iv), z] [.int r, .ref 4] M Ix J Q := by
      intro r
      refine zz_iconst (v := 2) (by decide) dX8_read_169 ?_
      refine zz_aload_n rfl dX8_read_170 ?_
      refine zz_geti dX8_read_171 fX8_25 rfl (os_2 hO) ?_
      try dsimp only [zz_s1, zz_s2, zz_kill, zz_ent, zz_fl, List.set_cons_zero, List.set_cons_succ, List.getElem?_cons_zero, List.getElem?_cons_succ, Option.toList_some, Option.toList_none, List.cons_append, List.nil_append, List.append_nil, List.length_cons, List.length_nil, List.replicate_succ, List.replicate_zero, Nat.reduceAdd, Nat.reduceSub]
      refine zz_cV3 dX8_read_174 lX8_34 rfl (os_4 hO) rfl rfl (Nat.le_of_ble_eq_true rfl) (Nat.le_of_ble_eq_true rfl) ?_
      refine sp_blameIf d hO (fun _ q => absurd q g1) (fun _ => ?_)
      try dsimp only [zz_s1, zz_s2, zz_kill, zz_ent, zz_fl, List.set_cons_zero, List.set_cons_succ, List.getElem?_cons_zero, List.getElem?_cons_succ, Option.toList_some, Option.toList_none, List.cons_append, List.nil_append, List.append_nil, List.length_cons, List.length_nil, List.replicate_succ, List.replicate_zero, Nat.reduceAdd, Nat.reduceSub]
      refine zz_aload_n rfl dX8_read_177 ?_
      refine zz_iload_n rfl dX8_read_178 ?_
      try dsimp only [zz_s1, zz_s2, zz_kill, zz_ent, zz_fl, List.set_cons_zero, List.set_cons_succ, List.getElem?_cons_zero, List.getElem?_cons_succ, Option.toList_some, Option.toList_none, List.cons_append, List.nil_append, List.append_nil, List.length_cons, List.length_nil, List.replicate_succ, List.replicate_zero, Nat.reduceAdd, Nat.reduceSub]
      refine zz_cV1 dX8_read_179 lX8_41 rfl (os_4 hO) rfl rfl (Nat.le_of_ble_eq_true rfl) (Nat.le_of_ble_eq_true rfl) ?_
      refine sp_close d hO hm2 hm (fun q => absurd q g1) (fun _ => ?_)
      try dsimp only [zz_s1, zz_s2, zz_kill, zz_ent, zz_fl, List.set_cons_zero, List.set_cons_succ, List.getElem?_cons_zero, List.getElem?_cons_succ, Option.toList_some, Option.toList_none, List.cons_append, List.nil_append, List.append_nil, List.length_cons, List.length_nil, List.replicate_succ, List.replicate_zero, Nat.reduceAdd, Nat.reduceSub]
      refine zz_return dX8_read_182 rfl ?_
      exact hq
    refine zz_if_ne (tgt := 168) dX8_read_161 (by decide) (fun h => ?_) (fun h => ?_)
    · refine zz_iconst (v := 0) (by decide) dX8_read_168 ?_
      try dsimp only [zz_s1, zz_s2, zz_kill, zz_ent, zz_fl, List.set_cons_zero, List.set_cons_succ, List.getElem?_cons_zero, List.getElem?_cons_succ, Option.toList_some, Option.toList_none, List.cons_append, List.nil_append, List.append_nil, List.length_cons, List.length_nil, List.replicate_succ, List.replicate_zero, Nat.reduceAdd, Nat.reduceSub]
      exact key 0
    · skip
      refine zz_iconst (v := 1) (by decide) dX8_read_164 ?_
      refine zz_goto (tgt := 169) dX8_read_165 (by decide) ?_
      try dsimp only [zz_s1, zz_s2, zz_kill, zz_ent, zz_fl, List.set_cons_zero, List.set_cons_succ, List.getElem?_cons_zero, List.getElem?_cons_succ, Option.toList_some, Option.toList_none, List.cons_append, List.nil_append, List.append_nil, List.length_cons, List.length_nil, List.replicate_succ, List.replicate_zero, Nat.reduceAdd, Nat.reduceSub]
      exact key 1
  have ft : ∀ (Ix : zz_I) (iv set : Int32) (z : Option Value), Ix 2 1 = nI n → ¬ Ix 4 2 = 0 → (∃ m, m < 24 ∧ Ix 4 1 = nI m) → Q none M Ix J → zz_G mX8_read (d + 1) 0 19 [some (.ref 4), some (.ref 2), some (.int set), some (.int iv), z] [] M Ix J Q := by
    intro Ix iv set z g0 g1 g2 hq
    refine zz_iload_n rfl dX8_read_19 ?_
    refine zz_aload_n rfl dX8_read_20 ?_
    refine zz_geti dX8_read_21 fX8_25 rfl (os_2 hO) ?_
    try dsimp only [zz_s1, zz_s2, zz_kill, zz_ent, zz_fl, List.set_cons_zero, List.set_cons_succ, List.getElem?_cons_zero, List.getElem?_cons_succ, Option.toList_some, Option.toList_none, List.cons_append, List.nil_append, List.append_nil, List.length_cons, List.length_nil, List.replicate_succ, List.replicate_zero, Nat.reduceAdd, Nat.reduceSub]
    refine zz_icmp_ge (tgt := 159) dX8_read_24 (by decide) (fun h => ?_) (fun h => ?_)
    · exact fin Ix iv set z g0 g1 g2 hq
    · skip
      refine zz_aload_n rfl dX8_read_27 ?_
      refine zz_geti dX8_read_28 fX8_19 rfl (os_4 hO) ?_
      try dsimp only [zz_s1, zz_s2, zz_kill, zz_ent, zz_fl, List.set_cons_zero, List.set_cons_succ, List.getElem?_cons_zero, List.getElem?_cons_succ, Option.toList_some, Option.toList_none, List.cons_append, List.nil_append, List.append_nil, List.length_cons, List.length_nil, List.replicate_succ, List.replicate_zero, Nat.reduceAdd, Nat.reduceSub]
      refine zz_if_ne (tgt := 159) dX8_read_31 (by decide) (fun h2 => ?_) (fun h2 => ?_)
      · exact fin Ix iv set z g0 g1 g2 hq
      · exact absurd h2 g1
  have loop : ∀ (r k : Nat) (Ix : zz_I) (set : Int32) (rd : List Int32) (z : Option Value), k + r = n → rd.length ≤ 23 → (∀ c, c ≠ 4 → c ≠ 5 → Ix c = I c) → Ix 4 2 = 0 → Ix 4 3 = -1 → Ix 4 1 = nI rd.length → (∀ i, i < rd.length → Ix 5 i = rd.getD i 0) → (∀ I' : zz_I, (∀ c, c ≠ 4 → c ≠ 5 → I' c = I c) → rdok I' (prs by_ n r k set rd) → Q none M I' J) → zz_G mX8_read (d + 1) 0 19 [some (.ref 4), some (.ref 2), some (.int set), some (.int (nI k)), z] [] M Ix J Q := by
    intro r
    induction r with
    | zero =>
      intro k Ix set rd z hk hrd hf g1 g2 g3 g4 hq
      have ek : k = n := by omega
      subst ek
      have hlen : Ix 2 1 = nI k := by rw [hf 2 (by decide) (by decide)]; exact hn
      have tail : zz_G mX8_read (d + 1) 0 159 [some (.ref 4), some (.ref 2), some (.int set), some (.int (nI k)), z] [] M Ix J Q := by
        refine zz_aload_n rfl dX8_read_159 ?_
        refine zz_iload_n rfl dX8_read_160 ?_
        try dsimp only [zz_s1, zz_s2, zz_kill, zz_ent, zz_fl, List.set_cons_zero, List.set_cons_succ, List.getElem?_cons_zero, List.getElem?_cons_succ, Option.toList_some, Option.toList_none, List.cons_append, List.nil_append, List.append_nil, List.length_cons, List.length_nil, List.replicate_succ, List.replicate_zero, Nat.reduceAdd, Nat.reduceSub]
        by_cases hs : set = 0
        · refine zz_if_ne (tgt := 168) dX8_read_161 (by decide) (fun h => ?_) (fun h => ?_)
          · exact absurd hs h
          · skip
            refine zz_iconst (v := 1) (by decide) dX8_read_164 ?_
            refine zz_goto (tgt := 169) dX8_read_165 (by decide) ?_
            refine zz_iconst (v := 2) (by decide) dX8_read_169 ?_
            refine zz_aload_n rfl dX8_read_170 ?_
            refine zz_geti dX8_read_171 fX8_25 rfl (os_2 hO) ?_
            try dsimp only [zz_s1, zz_s2, zz_kill, zz_ent, zz_fl, List.set_cons_zero, List.set_cons_succ, List.getElem?_cons_zero, List.getElem?_cons_succ, Option.toList_some, Option.toList_none, List.cons_append, List.nil_append, List.append_nil, List.length_cons, List.length_nil, List.replicate_succ, List.replicate_zero, Nat.reduceAdd, Nat.reduceSub]
            refine zz_cV3 dX8_read_174 lX8_34 rfl (os_4 hO) rfl rfl (Nat.le_of_ble_eq_true rfl) (Nat.le_of_ble_eq_true rfl) ?_
            refine sp_blameIf d hO (fun _ _ => ?_) (fun q => absurd g1 (q.elim (fun z => absurd z (by decide)) id))
            try dsimp only [zz_s1, zz_s2, zz_kill, zz_ent, zz_fl, List.set_cons_zero, List.set_cons_succ, List.getElem?_cons_zero, List.getElem?_cons_succ, Option.toList_some, Option.toList_none, List.cons_append, List.nil_append, List.append_nil, List.length_cons, List.length_nil, List.replicate_succ, List.replicate_zero, Nat.reduceAdd, Nat.reduceSub]
            refine zz_aload_n rfl dX8_read_177 ?_
            refine zz_iload_n rfl dX8_read_178 ?_
            try dsimp only [zz_s1, zz_s2, zz_kill, zz_ent, zz_fl, List.set_cons_zero, List.set_cons_succ, List.getElem?_cons_zero, List.getElem?_cons_succ, Option.toList_some, Option.toList_none, List.cons_append, List.nil_append, List.append_nil, List.length_cons, List.length_nil, List.replicate_succ, List.replicate_zero, Nat.reduceAdd, Nat.reduceSub]
            have e42 : (zz_ui (zz_ui Ix 4 2 2) 4 3 (Ix 2 1)) 4 2 = 2 := by simp [zz_ui_at, upd]
            refine zz_cV1 dX8_read_179 lX8_41 rfl (os_4 hO) rfl rfl (Nat.le_of_ble_eq_true rfl) (Nat.le_of_ble_eq_true rfl) ?_
            refine sp_close d hO (m := rd.length) (by simp only [zz_ui_at]; rw [pk_un (by decide), pk_un (by decide)]; exact g3) (by omega) (fun q => by rw [e42] at q; exact absurd q (by decide)) (fun _ => ?_)
            try dsimp only [zz_s1, zz_s2, zz_kill, zz_ent, zz_fl, List.set_cons_zero, List.set_cons_succ, List.getElem?_cons_zero, List.getElem?_cons_succ, Option.toList_some, Option.toList_none, List.cons_append, List.nil_append, List.append_nil, List.length_cons, List.length_nil, List.replicate_succ, List.replicate_zero, Nat.reduceAdd, Nat.reduceSub]
            refine zz_return dX8_read_182 rfl ?_
            refine hq _ (fun c c1 c2 => ?_) ?_
            · rw [zz_ui_ne _ _ _ c1, zz_ui_ne _ _ _ c1]; exact hf c c1 c2
            · unfold prs
              rw [if_pos hs]
              exact ⟨e42, by simp [zz_ui_at, upd, hlen], by decide⟩
        · skip
          refine zz_if_ne (tgt := 168) dX8_read_161 (by decide) (fun h => ?_) (fun h => ?_)
          · refine zz_iconst (v := 0) (by decide) dX8_read_168 ?_
            refine zz_iconst (v := 2) (by decide) dX8_read_169 ?_
            refine zz_aload_n rfl dX8_read_170 ?_
            refine zz_geti dX8_read_171 fX8_25 rfl (os_2 hO) ?_
            try dsimp only [zz_s1, zz_s2, zz_kill, zz_ent, zz_fl, List.set_cons_zero, List.set_cons_succ, List.getElem?_cons_zero, List.getElem?_cons_succ, Option.toList_some, Option.toList_none, List.cons_append, List.nil_append, List.append_nil, List.length_cons, List.length_nil, List.replicate_succ, List.replicate_zero, Nat.reduceAdd, Nat.reduceSub]
            refine zz_cV3 dX8_read_174 lX8_34 rfl (os_4 hO) rfl rfl (Nat.le_of_ble_eq_true rfl) (Nat.le_of_ble_eq_true rfl) ?_
            refine sp_blameIf d hO (fun q => absurd rfl q) (fun _ => ?_)
            try dsimp only [zz_s1, zz_s2, zz_kill, zz_ent, zz_fl, List.set_cons_zero, List.set_cons_succ, List.getElem?_cons_zero, List.getElem?_cons_succ, Option.toList_some, Option.toList_none, List.cons_append, List.nil_append, List.append_nil, List.length_cons, List.length_nil, List.replicate_succ, List.replicate_zero, Nat.reduceAdd, Nat.reduceSub]
            refine zz_aload_n rfl dX8_read_177 ?_
            refine zz_iload_n rfl dX8_read_178 ?_
            try dsimp only [zz_s1, zz_s2, zz_kill, zz_ent, zz_fl, List.set_cons_zero, List.set_cons_succ, List.getElem?_cons_zero, List.getElem?_cons_succ, Option.toList_some, Option.toList_none, List.cons_append, List.nil_append, List.append_nil, List.length_cons, List.length_nil, List.replicate_succ, List.replicate_zero, Nat.reduceAdd, Nat.reduceSub]
            refine zz_cV1 dX8_read_179 lX8_41 rfl (os_4 hO) rfl rfl (Nat.le_of_ble_eq_true rfl) (Nat.le_of_ble_eq_true rfl) ?_
            refine sp_close d hO (m := rd.length) g3 (by omega) (fun _ => ?_) (fun q => absurd g1 q)
            try dsimp only [zz_s1, zz_s2, zz_kill, zz_ent, zz_fl, List.set_cons_zero, List.set_cons_succ, List.getElem?_cons_zero, List.getElem?_cons_succ, Option.toList_some, Option.toList_none, List.cons_append, List.nil_append, List.append_nil, List.length_cons, List.length_nil, List.replicate_succ, List.replicate_zero, Nat.reduceAdd, Nat.reduceSub]
            refine zz_return dX8_read_182 rfl ?_
            refine hq _ (fun c c1 c2 => ?_) ?_
            · rw [zz_ui_ne _ _ _ c1, zz_ui_ne _ _ _ c2]; exact hf c c1 c2
            · unfold prs
              rw [if_neg hs]
              refine ⟨?_, ?_, ?_, fun i hi => ?_⟩
              · rw [zz_ui_at, pk_un (by decide), zz_ui_ne _ _ _ (by decide)]; exact g1
              · rw [zz_ui_at, pk_un (by decide), zz_ui_ne _ _ _ (by decide)]; exact g2
              · rw [zz_ui_at, pk_us, List.length_append]; rfl
              · rw [List.length_append] at hi
                rw [zz_ui_ne _ _ _ (by decide), zz_ui_at, getD_app hi]
                by_cases e : i = rd.length
                · subst e; simp [upd]
                · rw [pk_un e, if_neg e]; exact g4 i (by simp at hi; omega)
          · exact absurd h hs
      refine zz_iload_n rfl dX8_read_19 ?_
      refine zz_aload_n rfl dX8_read_20 ?_
      refine zz_geti dX8_read_21 fX8_25 rfl (os_2 hO) ?_
      try dsimp only [zz_s1, zz_s2, zz_kill, zz_ent, zz_fl, List.set_cons_zero, List.set_cons_succ, List.getElem?_cons_zero, List.getElem?_cons_succ, Option.toList_some, Option.toList_none, List.cons_append, List.nil_append, List.append_nil, List.length_cons, List.length_nil, List.replicate_succ, List.replicate_zero, Nat.reduceAdd, Nat.reduceSub]
      rw [hlen]
      refine zz_icmp_ge (tgt := 159) dX8_read_24 (by decide) (fun h => ?_) (fun h => ?_)
      · exact tail
      · exact absurd (nI_le (Nat.le_refl k) (by omega)) h
    | succ r ih =>
      intro k Ix set rd z hk hrd hf g1 g2 g3 g4 hq
      have hlen : Ix 2 1 = nI n := by rw [hf 2 (by decide) (by decide)]; exact hn
      have hbk : by_ k < 256 ∧ Ix 3 k = nI (by_ k) := by rw [hf 3 (by decide) (by decide)]; exact hby k (by omega)
      have eqb : ∀ c : Nat, c < 256 → (nI (by_ k) = nI c ↔ by_ k = c) := fun c hc => nI_eq (by omega) (by omega)
      refine zz_iload_n rfl dX8_read_19 ?_
      refine zz_aload_n rfl dX8_read_20 ?_
      refine zz_geti dX8_read_21 fX8_25 rfl (os_2 hO) ?_
      try dsimp only [zz_s1, zz_s2, zz_kill, zz_ent, zz_fl, List.set_cons_zero, List.set_cons_succ, List.getElem?_cons_zero, List.getElem?_cons_succ, Option.toList_some, Option.toList_none, List.cons_append, List.nil_append, List.append_nil, List.length_cons, List.length_nil, List.replicate_succ, List.replicate_zero, Nat.reduceAdd, Nat.reduceSub]
      rw [hlen]
      refine zz_icmp_ge (tgt := 159) dX8_read_24 (by decide) (fun h => ?_) (fun h => ?_)
      · exact absurd h (nI_ge (by omega) (by omega))
      · skip
        refine zz_aload_n rfl dX8_read_27 ?_
        refine zz_geti dX8_read_28 fX8_19 rfl (os_4 hO) ?_
        try dsimp only [zz_s1, zz_s2, zz_kill, zz_ent, zz_fl, List.set_cons_zero, List.set_cons_succ, List.getElem?_cons_zero, List.getElem?_cons_succ, Option.toList_some, Option.toList_none, List.cons_append, List.nil_append, List.append_nil, List.length_cons, List.length_nil, List.replicate_succ, List.replicate_zero, Nat.reduceAdd, Nat.reduceSub]
        refine zz_if_ne (tgt := 159) dX8_read_31 (by decide) (fun h2 => ?_) (fun h2 => ?_)
        · exact absurd g1 h2
        · skip
          refine zz_aload_n rfl dX8_read_34 ?_
          refine zz_iload_n rfl dX8_read_35 ?_
          try dsimp only [zz_s1, zz_s2, zz_kill, zz_ent, zz_fl, List.set_cons_zero, List.set_cons_succ, List.getElem?_cons_zero, List.getElem?_cons_succ, Option.toList_some, Option.toList_none, List.cons_append, List.nil_append, List.append_nil, List.length_cons, List.length_nil, List.replicate_succ, List.replicate_zero, Nat.reduceAdd, Nat.reduceSub]
          refine zz_cS2 dX8_read_36 lX8_30 rfl (Nat.le_of_ble_eq_true rfl) (Nat.le_of_ble_eq_true rfl) ?_
          refine sp_signAt d hO (i := k) (by omega) hbk.1 hbk.2 (fun s1 s2 => ?_) (fun s => ?_)
          try dsimp only [zz_s1, zz_s2, zz_kill, zz_ent, zz_fl, List.set_cons_zero, List.set_cons_succ, List.getElem?_cons_zero, List.getElem?_cons_succ, Option.toList_some, Option.toList_none, List.cons_append, List.nil_append, List.append_nil, List.length_cons, List.length_nil, List.replicate_succ, List.replicate_zero, Nat.reduceAdd, Nat.reduceSub]
          · refine zz_istore dX8_read_39 (by decide) ?_
            refine zz_iload rfl dX8_read_41 ?_
            try dsimp only [zz_s1, zz_s2, zz_kill, zz_ent, zz_fl, List.set_cons_zero, List.set_cons_succ, List.getElem?_cons_zero, List.getElem?_cons_succ, Option.toList_some, Option.toList_none, List.cons_append, List.nil_append, List.append_nil, List.length_cons, List.length_nil, List.replicate_succ, List.replicate_zero, Nat.reduceAdd, Nat.reduceSub]
            refine zz_if_eq (tgt := 72) dX8_read_43 (by decide) (fun h3 => ?_) (fun h3 => ?_)
            · exact absurd h3 (sbit_nz s1 s2)
            · skip
              refine zz_aload_n rfl dX8_read_46 ?_
              refine zz_iload_n rfl dX8_read_47 ?_
              refine zz_iload rfl dX8_read_48 ?_
              refine zz_iand dX8_read_50 ?_
              try dsimp only [zz_s1, zz_s2, zz_kill, zz_ent, zz_fl, List.set_cons_zero, List.set_cons_succ, List.getElem?_cons_zero, List.getElem?_cons_succ, Option.toList_some, Option.toList_none, List.cons_append, List.nil_append, List.append_nil, List.length_cons, List.length_nil, List.replicate_succ, List.replicate_zero, Nat.reduceAdd, Nat.reduceSub]
              have ne1 : ¬ (by_ k = 32 ∨ by_ k = 10) := by omega
              have ne2 : ¬ by_ k = 59 := by omega
              by_cases hs : set &&& sbit (by_ k) = 0
              · refine zz_if_eq (tgt := 58) dX8_read_51 (by decide) (fun h4 => ?_) (fun h4 => ?_)
                · refine zz_iconst (v := 0) (by decide) dX8_read_58 ?_
                  refine zz_iconst (v := 4) (by decide) dX8_read_59 ?_
                  refine zz_iload_n rfl dX8_read_60 ?_
                  try dsimp only [zz_s1, zz_s2, zz_kill, zz_ent, zz_fl, List.set_cons_zero, List.set_cons_succ, List.getElem?_cons_zero, List.getElem?_cons_succ, Option.toList_some, Option.toList_none, List.cons_append, List.nil_append, List.append_nil, List.length_cons, List.length_nil, List.replicate_succ, List.replicate_zero, Nat.reduceAdd, Nat.reduceSub]
                  refine zz_cV3 dX8_read_61 lX8_34 rfl (os_4 hO) rfl rfl (Nat.le_of_ble_eq_true rfl) (Nat.le_of_ble_eq_true rfl) ?_
                  refine sp_blameIf d hO (fun q => absurd rfl q) (fun _ => ?_)
                  try dsimp only [zz_s1, zz_s2, zz_kill, zz_ent, zz_fl, List.set_cons_zero, List.set_cons_succ, List.getElem?_cons_zero, List.getElem?_cons_succ, Option.toList_some, Option.toList_none, List.cons_append, List.nil_append, List.append_nil, List.length_cons, List.length_nil, List.replicate_succ, List.replicate_zero, Nat.reduceAdd, Nat.reduceSub]
                  refine zz_iload_n rfl dX8_read_64 ?_
                  refine zz_iload rfl dX8_read_65 ?_
                  refine zz_ior dX8_read_67 ?_
                  refine zz_istore_n dX8_read_68 (by decide) ?_
                  refine zz_goto (tgt := 153) dX8_read_69 (by decide) ?_
                  refine zz_iinc dX8_read_153 rfl (congrArg (HAdd.hAdd _) (show Int32.ofInt 1 = 1 by decide)) (by decide) ?_
                  refine zz_goto (tgt := 19) dX8_read_156 (by decide) ?_
                  try dsimp only [zz_s1, zz_s2, zz_kill, zz_ent, zz_fl, List.set_cons_zero, List.set_cons_succ, List.getElem?_cons_zero, List.getElem?_cons_succ, Option.toList_some, Option.toList_none, List.cons_append, List.nil_append, List.append_nil, List.length_cons, List.length_nil, List.replicate_succ, List.replicate_zero, Nat.reduceAdd, Nat.reduceSub]
                  rw [nI_1]
                  refine ih (k + 1) Ix _ rd _ (by omega) hrd hf g1 g2 g3 g4 (fun I' a b => hq I' a ?_)
                  unfold prs
                  rw [if_neg ne1, if_neg ne2, if_pos ⟨s1, s2⟩, if_neg (fun q => q hs)]
                  exact b
                · exact absurd hs h4
              · skip
                refine zz_if_eq (tgt := 58) dX8_read_51 (by decide) (fun h4 => ?_) (fun h4 => ?_)
                · exact absurd h4 hs
                · skip
                  refine zz_iconst (v := 1) (by decide) dX8_read_54 ?_
                  refine zz_goto (tgt := 59) dX8_read_55 (by decide) ?_
                  refine zz_iconst (v := 4) (by decide) dX8_read_59 ?_
                  refine zz_iload_n rfl dX8_read_60 ?_
                  try dsimp only [zz_s1, zz_s2, zz_kill, zz_ent, zz_fl, List.set_cons_zero, List.set_cons_succ, List.getElem?_cons_zero, List.getElem?_cons_succ, Option.toList_some, Option.toList_none, List.cons_append, List.nil_append, List.append_nil, List.length_cons, List.length_nil, List.replicate_succ, List.replicate_zero, Nat.reduceAdd, Nat.reduceSub]
                  refine zz_cV3 dX8_read_61 lX8_34 rfl (os_4 hO) rfl rfl (Nat.le_of_ble_eq_true rfl) (Nat.le_of_ble_eq_true rfl) ?_
                  refine sp_blameIf d hO (fun _ _ => ?_) (fun q => absurd g1 (q.elim (fun z => absurd z (by decide)) id))
                  try dsimp only [zz_s1, zz_s2, zz_kill, zz_ent, zz_fl, List.set_cons_zero, List.set_cons_succ, List.getElem?_cons_zero, List.getElem?_cons_succ, Option.toList_some, Option.toList_none, List.cons_append, List.nil_append, List.append_nil, List.length_cons, List.length_nil, List.replicate_succ, List.replicate_zero, Nat.reduceAdd, Nat.reduceSub]
                  refine zz_iload_n rfl dX8_read_64 ?_
                  refine zz_iload rfl dX8_read_65 ?_
                  refine zz_ior dX8_read_67 ?_
                  refine zz_istore_n dX8_read_68 (by decide) ?_
                  refine zz_goto (tgt := 153) dX8_read_69 (by decide) ?_
                  refine zz_iinc dX8_read_153 rfl (congrArg (HAdd.hAdd _) (show Int32.ofInt 1 = 1 by decide)) (by decide) ?_
                  refine zz_goto (tgt := 19) dX8_read_156 (by decide) ?_
                  try dsimp only [zz_s1, zz_s2, zz_kill, zz_ent, zz_fl, List.set_cons_zero, List.set_cons_succ, List.getElem?_cons_zero, List.getElem?_cons_succ, Option.toList_some, Option.toList_none, List.cons_append, List.nil_append, List.append_nil, List.length_cons, List.length_nil, List.replicate_succ, List.replicate_zero, Nat.reduceAdd, Nat.reduceSub]
                  have e42 : (zz_ui (zz_ui Ix 4 2 4) 4 3 (nI k)) 4 2 = 4 := by simp [zz_ui_at, upd]
                  refine ft _ _ _ _ (by rw [zz_ui_ne _ _ _ (by decide), zz_ui_ne _ _ _ (by decide)]; exact hlen) (by rw [e42]; decide) ⟨rd.length, by omega, by simp only [zz_ui_at]; rw [pk_un (by decide), pk_un (by decide)]; exact g3⟩ (hq _ (fun c c1 c2 => ?_) ?_)
                  · rw [zz_ui_ne _ _ _ c1, zz_ui_ne _ _ _ c1]; exact hf c c1 c2
                  · unfold prs
                    rw [if_neg ne1, if_neg ne2, if_pos ⟨s1, s2⟩, if_pos hs]
                    exact ⟨e42, by simp [zz_ui_at, upd], by decide⟩
          · try dsimp only [zz_s1, zz_s2, zz_kill, zz_ent, zz_fl, List.set_cons_zero, List.set_cons_succ, List.getElem?_cons_zero, List.getElem?_cons_succ, Option.toList_some, Option.toList_none, List.cons_append, List.nil_append, List.append_nil, List.length_cons, List.length_nil, List.replicate_succ, List.replicate_zero, Nat.reduceAdd, Nat.reduceSub]
            refine zz_istore dX8_read_39 (by decide) ?_
            refine zz_iload rfl dX8_read_41 ?_
            try dsimp only [zz_s1, zz_s2, zz_kill, zz_ent, zz_fl, List.set_cons_zero, List.set_cons_succ, List.getElem?_cons_zero, List.getElem?_cons_succ, Option.toList_some, Option.toList_none, List.cons_append, List.nil_append, List.append_nil, List.length_cons, List.length_nil, List.replicate_succ, List.replicate_zero, Nat.reduceAdd, Nat.reduceSub]
            refine zz_if_eq (tgt := 72) dX8_read_43 (by decide) (fun h3 => ?_) (fun h3 => ?_)
            · refine zz_aload_n rfl dX8_read_72 ?_
              refine zz_getr dX8_read_73 fX8_38 (fun _ _ _ _ => rfl) (os_2 hO) (or_2_0 hO) ?_
              refine zz_iload_n rfl dX8_read_76 ?_
              refine zz_iald dX8_read_77 (os_3 hO) (vp_in_nI (by omega) (by decide)) ?_
              refine zz_bipush (v := 59) (by decide) dX8_read_78 ?_
              try dsimp only [zz_s1, zz_s2, zz_kill, zz_ent, zz_fl, List.set_cons_zero, List.set_cons_succ, List.getElem?_cons_zero, List.getElem?_cons_succ, Option.toList_some, Option.toList_none, List.cons_append, List.nil_append, List.append_nil, List.length_cons, List.length_nil, List.replicate_succ, List.replicate_zero, Nat.reduceAdd, Nat.reduceSub]
              rw [nI_clamp (by omega), hbk.2]
              refine zz_icmp_ne (tgt := 130) dX8_read_80 (by decide) (fun h4 => ?_) (fun h4 => ?_)
              · have ne59 : ¬ by_ k = 59 := fun q => h4 ((eqb 59 (by decide)).mpr q)
                refine zz_aload_n rfl dX8_read_130 ?_
                refine zz_aload_n rfl dX8_read_131 ?_
                refine zz_getr dX8_read_132 fX8_38 (fun _ _ _ _ => rfl) (os_2 hO) (or_2_0 hO) ?_
                refine zz_iload_n rfl dX8_read_135 ?_
                refine zz_iald dX8_read_136 (os_3 hO) (vp_in_nI (by omega) (by decide)) ?_
                try dsimp only [zz_s1, zz_s2, zz_kill, zz_ent, zz_fl, List.set_cons_zero, List.set_cons_succ, List.getElem?_cons_zero, List.getElem?_cons_succ, Option.toList_some, Option.toList_none, List.cons_append, List.nil_append, List.append_nil, List.length_cons, List.length_nil, List.replicate_succ, List.replicate_zero, Nat.reduceAdd, Nat.reduceSub]
                rw [nI_clamp (by omega), hbk.2]
                refine zz_cS1 dX8_read_137 lX8_45 rfl (Nat.le_of_ble_eq_true rfl) (Nat.le_of_ble_eq_true rfl) ?_
                refine sp_isBlank d (fun r hr => ?_)
                try dsimp only [zz_s1, zz_s2, zz_kill, zz_ent, zz_fl, List.set_cons_zero, List.set_cons_succ, List.getElem?_cons_zero, List.getElem?_cons_succ, Option.toList_some, Option.toList_none, List.cons_append, List.nil_append, List.append_nil, List.length_cons, List.length_nil, List.replicate_succ, List.replicate_zero, Nat.reduceAdd, Nat.reduceSub]
                have hr : bo r (by_ k = 32 ∨ by_ k = 10) := hr.iff (by rw [show (32 : Int32) = nI 32 from rfl, show (10 : Int32) = nI 10 from rfl, eqb 32 (by decide), eqb 10 (by decide)])
                refine zz_if_ne (tgt := 147) dX8_read_140 (by decide) (fun h5 => ?_) (fun h5 => ?_)
                · refine zz_iconst (v := 0) (by decide) dX8_read_147 ?_
                  refine zz_iconst (v := 1) (by decide) dX8_read_148 ?_
                  refine zz_iload_n rfl dX8_read_149 ?_
                  try dsimp only [zz_s1, zz_s2, zz_kill, zz_ent, zz_fl, List.set_cons_zero, List.set_cons_succ, List.getElem?_cons_zero, List.getElem?_cons_succ, Option.toList_some, Option.toList_none, List.cons_append, List.nil_append, List.append_nil, List.length_cons, List.length_nil, List.replicate_succ, List.replicate_zero, Nat.reduceAdd, Nat.reduceSub]
                  refine zz_cV3 dX8_read_150 lX8_34 rfl (os_4 hO) rfl rfl (Nat.le_of_ble_eq_true rfl) (Nat.le_of_ble_eq_true rfl) ?_
                  refine sp_blameIf d hO (fun q => absurd rfl q) (fun _ => ?_)
                  try dsimp only [zz_s1, zz_s2, zz_kill, zz_ent, zz_fl, List.set_cons_zero, List.set_cons_succ, List.getElem?_cons_zero, List.getElem?_cons_succ, Option.toList_some, Option.toList_none, List.cons_append, List.nil_append, List.append_nil, List.length_cons, List.length_nil, List.replicate_succ, List.replicate_zero, Nat.reduceAdd, Nat.reduceSub]
                  refine zz_iinc dX8_read_153 rfl (congrArg (HAdd.hAdd _) (show Int32.ofInt 1 = 1 by decide)) (by decide) ?_
                  refine zz_goto (tgt := 19) dX8_read_156 (by decide) ?_
                  try dsimp only [zz_s1, zz_s2, zz_kill, zz_ent, zz_fl, List.set_cons_zero, List.set_cons_succ, List.getElem?_cons_zero, List.getElem?_cons_succ, Option.toList_some, Option.toList_none, List.cons_append, List.nil_append, List.append_nil, List.length_cons, List.length_nil, List.replicate_succ, List.replicate_zero, Nat.reduceAdd, Nat.reduceSub]
                  rw [nI_1]
                  refine ih (k + 1) Ix _ rd _ (by omega) hrd hf g1 g2 g3 g4 (fun I' a b => hq I' a ?_)
                  unfold prs
                  rw [if_pos (hr.t h5)]
                  exact b
                · skip
                  refine zz_iconst (v := 1) (by decide) dX8_read_143 ?_
                  refine zz_goto (tgt := 148) dX8_read_144 (by decide) ?_
                  refine zz_iconst (v := 1) (by decide) dX8_read_148 ?_
                  refine zz_iload_n rfl dX8_read_149 ?_
                  try dsimp only [zz_s1, zz_s2, zz_kill, zz_ent, zz_fl, List.set_cons_zero, List.set_cons_succ, List.getElem?_cons_zero, List.getElem?_cons_succ, Option.toList_some, Option.toList_none, List.cons_append, List.nil_append, List.append_nil, List.length_cons, List.length_nil, List.replicate_succ, List.replicate_zero, Nat.reduceAdd, Nat.reduceSub]
                  refine zz_cV3 dX8_read_150 lX8_34 rfl (os_4 hO) rfl rfl (Nat.le_of_ble_eq_true rfl) (Nat.le_of_ble_eq_true rfl) ?_
                  refine sp_blameIf d hO (fun _ _ => ?_) (fun q => absurd g1 (q.elim (fun z => absurd z (by decide)) id))
                  try dsimp only [zz_s1, zz_s2, zz_kill, zz_ent, zz_fl, List.set_cons_zero, List.set_cons_succ, List.getElem?_cons_zero, List.getElem?_cons_succ, Option.toList_some, Option.toList_none, List.cons_append, List.nil_append, List.append_nil, List.length_cons, List.length_nil, List.replicate_succ, List.replicate_zero, Nat.reduceAdd, Nat.reduceSub]
                  refine zz_iinc dX8_read_153 rfl (congrArg (HAdd.hAdd _) (show Int32.ofInt 1 = 1 by decide)) (by decide) ?_
                  refine zz_goto (tgt := 19) dX8_read_156 (by decide) ?_
                  try dsimp only [zz_s1, zz_s2, zz_kill, zz_ent, zz_fl, List.set_cons_zero, List.set_cons_succ, List.getElem?_cons_zero, List.getElem?_cons_succ, Option.toList_some, Option.toList_none, List.cons_append, List.nil_append, List.append_nil, List.length_cons, List.length_nil, List.replicate_succ, List.replicate_zero, Nat.reduceAdd, Nat.reduceSub]
                  have e42 : (zz_ui (zz_ui Ix 4 2 1) 4 3 (nI k)) 4 2 = 1 := by simp [zz_ui_at, upd]
                  refine ft _ _ _ _ (by rw [zz_ui_ne _ _ _ (by decide), zz_ui_ne _ _ _ (by decide)]; exact hlen) (by rw [e42]; decide) ⟨rd.length, by omega, by simp only [zz_ui_at]; rw [pk_un (by decide), pk_un (by decide)]; exact g3⟩ (hq _ (fun c c1 c2 => ?_) ?_)
                  · rw [zz_ui_ne _ _ _ c1, zz_ui_ne _ _ _ c1]; exact hf c c1 c2
                  · unfold prs
                    rw [if_neg (hr.f h5), if_neg ne59, if_neg s]
                    exact ⟨e42, by simp [zz_ui_at, upd], by decide⟩
              · skip
                have e59 : by_ k = 59 := (eqb 59 (by decide)).mp h4
                have nb : ¬ (by_ k = 32 ∨ by_ k = 10) := by omega
                refine zz_aload_n rfl dX8_read_83 ?_
                refine zz_iload_n rfl dX8_read_84 ?_
                try dsimp only [zz_s1, zz_s2, zz_kill, zz_ent, zz_fl, List.set_cons_zero, List.set_cons_succ, List.getElem?_cons_zero, List.getElem?_cons_succ, Option.toList_some, Option.toList_none, List.cons_append, List.nil_append, List.append_nil, List.length_cons, List.length_nil, List.replicate_succ, List.replicate_zero, Nat.reduceAdd, Nat.reduceSub]
                by_cases hs : set = 0
                · refine zz_if_ne (tgt := 92) dX8_read_85 (by decide) (fun h5 => ?_) (fun h5 => ?_)
                  · exact absurd hs h5
                  · skip
                    refine zz_iconst (v := 1) (by decide) dX8_read_88 ?_
                    refine zz_goto (tgt := 93) dX8_read_89 (by decide) ?_
                    refine zz_iconst (v := 2) (by decide) dX8_read_93 ?_
                    refine zz_iload_n rfl dX8_read_94 ?_
                    try dsimp only [zz_s1, zz_s2, zz_kill, zz_ent, zz_fl, List.set_cons_zero, List.set_cons_succ, List.getElem?_cons_zero, List.getElem?_cons_succ, Option.toList_some, Option.toList_none, List.cons_append, List.nil_append, List.append_nil, List.length_cons, List.length_nil, List.replicate_succ, List.replicate_zero, Nat.reduceAdd, Nat.reduceSub]
                    refine zz_cV3 dX8_read_95 lX8_34 rfl (os_4 hO) rfl rfl (Nat.le_of_ble_eq_true rfl) (Nat.le_of_ble_eq_true rfl) ?_
                    refine sp_blameIf d hO (fun _ _ => ?_) (fun q => absurd g1 (q.elim (fun z => absurd z (by decide)) id))
                    try dsimp only [zz_s1, zz_s2, zz_kill, zz_ent, zz_fl, List.set_cons_zero, List.set_cons_succ, List.getElem?_cons_zero, List.getElem?_cons_succ, Option.toList_some, Option.toList_none, List.cons_append, List.nil_append, List.append_nil, List.length_cons, List.length_nil, List.replicate_succ, List.replicate_zero, Nat.reduceAdd, Nat.reduceSub]
                    have e42 : (zz_ui (zz_ui Ix 4 2 2) 4 3 (nI k)) 4 2 = 2 := by simp [zz_ui_at, upd]
                    have e41 : (zz_ui (zz_ui Ix 4 2 2) 4 3 (nI k)) 4 1 = nI rd.length := by simp only [zz_ui_at]; rw [pk_un (by decide), pk_un (by decide)]; exact g3
                    refine zz_aload_n rfl dX8_read_98 ?_
                    refine zz_aload_n rfl dX8_read_99 ?_
                    refine zz_geti dX8_read_100 fX8_15 rfl (os_4 hO) ?_
                    refine zz_iconst (v := 1) (by decide) dX8_read_103 ?_
                    refine zz_iadd dX8_read_104 ?_
                    refine zz_bipush (v := 24) (by decide) dX8_read_105 ?_
                    try dsimp only [zz_s1, zz_s2, zz_kill, zz_ent, zz_fl, List.set_cons_zero, List.set_cons_succ, List.getElem?_cons_zero, List.getElem?_cons_succ, Option.toList_some, Option.toList_none, List.cons_append, List.nil_append, List.append_nil, List.length_cons, List.length_nil, List.replicate_succ, List.replicate_zero, Nat.reduceAdd, Nat.reduceSub]
                    rw [e41]
                    have key : ∀ r : Int32, zz_G mX8_read (d + 1) 0 115 [some (.ref 4), some (.ref 2), some (.int set), some (.int (nI k)), some (.int 0)] [.int r, .ref 4] M (zz_ui (zz_ui Ix 4 2 2) 4 3 (nI k)) J Q := by
                      intro r
                      refine zz_iconst (v := 3) (by decide) dX8_read_115 ?_
                      refine zz_iload_n rfl dX8_read_116 ?_
                      try dsimp only [zz_s1, zz_s2, zz_kill, zz_ent, zz_fl, List.set_cons_zero, List.set_cons_succ, List.getElem?_cons_zero, List.getElem?_cons_succ, Option.toList_some, Option.toList_none, List.cons_append, List.nil_append, List.append_nil, List.length_cons, List.length_nil, List.replicate_succ, List.replicate_zero, Nat.reduceAdd, Nat.reduceSub]
                      refine zz_cV3 dX8_read_117 lX8_34 rfl (os_4 hO) rfl rfl (Nat.le_of_ble_eq_true rfl) (Nat.le_of_ble_eq_true rfl) ?_
                      refine sp_blameIf d hO (fun _ q => by rw [e42] at q; exact absurd q (by decide)) (fun _ => ?_)
                      try dsimp only [zz_s1, zz_s2, zz_kill, zz_ent, zz_fl, List.set_cons_zero, List.set_cons_succ, List.getElem?_cons_zero, List.getElem?_cons_succ, Option.toList_some, Option.toList_none, List.cons_append, List.nil_append, List.append_nil, List.length_cons, List.length_nil, List.replicate_succ, List.replicate_zero, Nat.reduceAdd, Nat.reduceSub]
                      refine zz_aload_n rfl dX8_read_120 ?_
                      refine zz_iload_n rfl dX8_read_121 ?_
                      try dsimp only [zz_s1, zz_s2, zz_kill, zz_ent, zz_fl, List.set_cons_zero, List.set_cons_succ, List.getElem?_cons_zero, List.getElem?_cons_succ, Option.toList_some, Option.toList_none, List.cons_append, List.nil_append, List.append_nil, List.length_cons, List.length_nil, List.replicate_succ, List.replicate_zero, Nat.reduceAdd, Nat.reduceSub]
                      refine zz_cV1 dX8_read_122 lX8_41 rfl (os_4 hO) rfl rfl (Nat.le_of_ble_eq_true rfl) (Nat.le_of_ble_eq_true rfl) ?_
                      refine sp_close d hO e41 (by omega) (fun q => by rw [e42] at q; exact absurd q (by decide)) (fun _ => ?_)
                      try dsimp only [zz_s1, zz_s2, zz_kill, zz_ent, zz_fl, List.set_cons_zero, List.set_cons_succ, List.getElem?_cons_zero, List.getElem?_cons_succ, Option.toList_some, Option.toList_none, List.cons_append, List.nil_append, List.append_nil, List.length_cons, List.length_nil, List.replicate_succ, List.replicate_zero, Nat.reduceAdd, Nat.reduceSub]
                      refine zz_iconst (v := 0) (by decide) dX8_read_125 ?_
                      refine zz_istore_n dX8_read_126 (by decide) ?_
                      refine zz_goto (tgt := 153) dX8_read_127 (by decide) ?_
                      refine zz_iinc dX8_read_153 rfl (congrArg (HAdd.hAdd _) (show Int32.ofInt 1 = 1 by decide)) (by decide) ?_
                      refine zz_goto (tgt := 19) dX8_read_156 (by decide) ?_
                      try dsimp only [zz_s1, zz_s2, zz_kill, zz_ent, zz_fl, List.set_cons_zero, List.set_cons_succ, List.getElem?_cons_zero, List.getElem?_cons_succ, Option.toList_some, Option.toList_none, List.cons_append, List.nil_append, List.append_nil, List.length_cons, List.length_nil, List.replicate_succ, List.replicate_zero, Nat.reduceAdd, Nat.reduceSub]
                      refine ft _ _ _ _ (by rw [zz_ui_ne _ _ _ (by decide), zz_ui_ne _ _ _ (by decide)]; exact hlen) (by rw [e42]; decide) ⟨rd.length, by omega, e41⟩ (hq _ (fun c c1 c2 => ?_) ?_)
                      · rw [zz_ui_ne _ _ _ c1, zz_ui_ne _ _ _ c1]; exact hf c c1 c2
                      · unfold prs
                        rw [if_neg nb, if_pos e59, if_pos hs]
                        exact ⟨e42, by simp [zz_ui_at, upd], by decide⟩
                    refine zz_icmp_lt (tgt := 114) dX8_read_107 (by decide) (fun h6 => ?_) (fun h6 => ?_)
                    · refine zz_iconst (v := 0) (by decide) dX8_read_114 ?_
                      try dsimp only [zz_s1, zz_s2, zz_kill, zz_ent, zz_fl, List.set_cons_zero, List.set_cons_succ, List.getElem?_cons_zero, List.getElem?_cons_succ, Option.toList_some, Option.toList_none, List.cons_append, List.nil_append, List.append_nil, List.length_cons, List.length_nil, List.replicate_succ, List.replicate_zero, Nat.reduceAdd, Nat.reduceSub]
                      exact key 0
                    · skip
                      refine zz_iconst (v := 1) (by decide) dX8_read_110 ?_
                      refine zz_goto (tgt := 115) dX8_read_111 (by decide) ?_
                      try dsimp only [zz_s1, zz_s2, zz_kill, zz_ent, zz_fl, List.set_cons_zero, List.set_cons_succ, List.getElem?_cons_zero, List.getElem?_cons_succ, Option.toList_some, Option.toList_none, List.cons_append, List.nil_append, List.append_nil, List.length_cons, List.length_nil, List.replicate_succ, List.replicate_zero, Nat.reduceAdd, Nat.reduceSub]
                      exact key 1
                · skip
                  refine zz_if_ne (tgt := 92) dX8_read_85 (by decide) (fun h5 => ?_) (fun h5 => ?_)
                  · refine zz_iconst (v := 0) (by decide) dX8_read_92 ?_
                    refine zz_iconst (v := 2) (by decide) dX8_read_93 ?_
                    refine zz_iload_n rfl dX8_read_94 ?_
                    try dsimp only [zz_s1, zz_s2, zz_kill, zz_ent, zz_fl, List.set_cons_zero, List.set_cons_succ, List.getElem?_cons_zero, List.getElem?_cons_succ, Option.toList_some, Option.toList_none, List.cons_append, List.nil_append, List.append_nil, List.length_cons, List.length_nil, List.replicate_succ, List.replicate_zero, Nat.reduceAdd, Nat.reduceSub]
                    refine zz_cV3 dX8_read_95 lX8_34 rfl (os_4 hO) rfl rfl (Nat.le_of_ble_eq_true rfl) (Nat.le_of_ble_eq_true rfl) ?_
                    refine sp_blameIf d hO (fun q => absurd rfl q) (fun _ => ?_)
                    try dsimp only [zz_s1, zz_s2, zz_kill, zz_ent, zz_fl, List.set_cons_zero, List.set_cons_succ, List.getElem?_cons_zero, List.getElem?_cons_succ, Option.toList_some, Option.toList_none, List.cons_append, List.nil_append, List.append_nil, List.length_cons, List.length_nil, List.replicate_succ, List.replicate_zero, Nat.reduceAdd, Nat.reduceSub]
                    refine zz_aload_n rfl dX8_read_98 ?_
                    refine zz_aload_n rfl dX8_read_99 ?_
                    refine zz_geti dX8_read_100 fX8_15 rfl (os_4 hO) ?_
                    refine zz_iconst (v := 1) (by decide) dX8_read_103 ?_
                    refine zz_iadd dX8_read_104 ?_
                    refine zz_bipush (v := 24) (by decide) dX8_read_105 ?_
                    try dsimp only [zz_s1, zz_s2, zz_kill, zz_ent, zz_fl, List.set_cons_zero, List.set_cons_succ, List.getElem?_cons_zero, List.getElem?_cons_succ, Option.toList_some, Option.toList_none, List.cons_append, List.nil_append, List.append_nil, List.length_cons, List.length_nil, List.replicate_succ, List.replicate_zero, Nat.reduceAdd, Nat.reduceSub]
                    rw [g3, nI_1]
                    by_cases hfull : rd.length = 23
                    · refine zz_icmp_lt (tgt := 114) dX8_read_107 (by decide) (fun h6 => ?_) (fun h6 => ?_)
                      · exact absurd h6 (nI_nlt (b := 24) (a := rd.length + 1) (by omega) (by omega))
                      · skip
                        refine zz_iconst (v := 1) (by decide) dX8_read_110 ?_
                        refine zz_goto (tgt := 115) dX8_read_111 (by decide) ?_
                        refine zz_iconst (v := 3) (by decide) dX8_read_115 ?_
                        refine zz_iload_n rfl dX8_read_116 ?_
                        try dsimp only [zz_s1, zz_s2, zz_kill, zz_ent, zz_fl, List.set_cons_zero, List.set_cons_succ, List.getElem?_cons_zero, List.getElem?_cons_succ, Option.toList_some, Option.toList_none, List.cons_append, List.nil_append, List.append_nil, List.length_cons, List.length_nil, List.replicate_succ, List.replicate_zero, Nat.reduceAdd, Nat.reduceSub]
                        refine zz_cV3 dX8_read_117 lX8_34 rfl (os_4 hO) rfl rfl (Nat.le_of_ble_eq_true rfl) (Nat.le_of_ble_eq_true rfl) ?_
                        refine sp_blameIf d hO (fun _ _ => ?_) (fun q => absurd g1 (q.elim (fun z => absurd z (by decide)) id))
                        try dsimp only [zz_s1, zz_s2, zz_kill, zz_ent, zz_fl, List.set_cons_zero, List.set_cons_succ, List.getElem?_cons_zero, List.getElem?_cons_succ, Option.toList_some, Option.toList_none, List.cons_append, List.nil_append, List.append_nil, List.length_cons, List.length_nil, List.replicate_succ, List.replicate_zero, Nat.reduceAdd, Nat.reduceSub]
                        have e42 : (zz_ui (zz_ui Ix 4 2 3) 4 3 (nI k)) 4 2 = 3 := by simp [zz_ui_at, upd]
                        have e41 : (zz_ui (zz_ui Ix 4 2 3) 4 3 (nI k)) 4 1 = nI rd.length := by simp only [zz_ui_at]; rw [pk_un (by decide), pk_un (by decide)]; exact g3
                        refine zz_aload_n rfl dX8_read_120 ?_
                        refine zz_iload_n rfl dX8_read_121 ?_
                        try dsimp only [zz_s1, zz_s2, zz_kill, zz_ent, zz_fl, List.set_cons_zero, List.set_cons_succ, List.getElem?_cons_zero, List.getElem?_cons_succ, Option.toList_some, Option.toList_none, List.cons_append, List.nil_append, List.append_nil, List.length_cons, List.length_nil, List.replicate_succ, List.replicate_zero, Nat.reduceAdd, Nat.reduceSub]
                        refine zz_cV1 dX8_read_122 lX8_41 rfl (os_4 hO) rfl rfl (Nat.le_of_ble_eq_true rfl) (Nat.le_of_ble_eq_true rfl) ?_
                        refine sp_close d hO e41 (by omega) (fun q => by rw [e42] at q; exact absurd q (by decide)) (fun _ => ?_)
                        try dsimp only [zz_s1, zz_s2, zz_kill, zz_ent, zz_fl, List.set_cons_zero, List.set_cons_succ, List.getElem?_cons_zero, List.getElem?_cons_succ, Option.toList_some, Option.toList_none, List.cons_append, List.nil_append, List.append_nil, List.length_cons, List.length_nil, List.replicate_succ, List.replicate_zero, Nat.reduceAdd, Nat.reduceSub]
                        refine zz_iconst (v := 0) (by decide) dX8_read_125 ?_
                        refine zz_istore_n dX8_read_126 (by decide) ?_
                        refine zz_goto (tgt := 153) dX8_read_127 (by decide) ?_
                        refine zz_iinc dX8_read_153 rfl (congrArg (HAdd.hAdd _) (show Int32.ofInt 1 = 1 by decide)) (by decide) ?_
                        refine zz_goto (tgt := 19) dX8_read_156 (by decide) ?_
                        try dsimp only [zz_s1, zz_s2, zz_kill, zz_ent, zz_fl, List.set_cons_zero, List.set_cons_succ, List.getElem?_cons_zero, List.getElem?_cons_succ, Option.toList_some, Option.toList_none, List.cons_append, List.nil_append, List.append_nil, List.length_cons, List.length_nil, List.replicate_succ, List.replicate_zero, Nat.reduceAdd, Nat.reduceSub]
                        refine ft _ _ _ _ (by rw [zz_ui_ne _ _ _ (by decide), zz_ui_ne _ _ _ (by decide)]; exact hlen) (by rw [e42]; decide) ⟨rd.length, by omega, e41⟩ (hq _ (fun c c1 c2 => ?_) ?_)
                        · rw [zz_ui_ne _ _ _ c1, zz_ui_ne _ _ _ c1]; exact hf c c1 c2
                        · unfold prs
                          rw [if_neg nb, if_pos e59, if_neg hs, if_pos hfull]
                          exact ⟨e42, by simp [zz_ui_at, upd], by decide⟩
                    · skip
                      refine zz_icmp_lt (tgt := 114) dX8_read_107 (by decide) (fun h6 => ?_) (fun h6 => ?_)
                      · refine zz_iconst (v := 0) (by decide) dX8_read_114 ?_
                        refine zz_iconst (v := 3) (by decide) dX8_read_115 ?_
                        refine zz_iload_n rfl dX8_read_116 ?_
                        try dsimp only [zz_s1, zz_s2, zz_kill, zz_ent, zz_fl, List.set_cons_zero, List.set_cons_succ, List.getElem?_cons_zero, List.getElem?_cons_succ, Option.toList_some, Option.toList_none, List.cons_append, List.nil_append, List.append_nil, List.length_cons, List.length_nil, List.replicate_succ, List.replicate_zero, Nat.reduceAdd, Nat.reduceSub]
                        refine zz_cV3 dX8_read_117 lX8_34 rfl (os_4 hO) rfl rfl (Nat.le_of_ble_eq_true rfl) (Nat.le_of_ble_eq_true rfl) ?_
                        refine sp_blameIf d hO (fun q => absurd rfl q) (fun _ => ?_)
                        try dsimp only [zz_s1, zz_s2, zz_kill, zz_ent, zz_fl, List.set_cons_zero, List.set_cons_succ, List.getElem?_cons_zero, List.getElem?_cons_succ, Option.toList_some, Option.toList_none, List.cons_append, List.nil_append, List.append_nil, List.length_cons, List.length_nil, List.replicate_succ, List.replicate_zero, Nat.reduceAdd, Nat.reduceSub]
                        refine zz_aload_n rfl dX8_read_120 ?_
                        refine zz_iload_n rfl dX8_read_121 ?_
                        try dsimp only [zz_s1, zz_s2, zz_kill, zz_ent, zz_fl, List.set_cons_zero, List.set_cons_succ, List.getElem?_cons_zero, List.getElem?_cons_succ, Option.toList_some, Option.toList_none, List.cons_append, List.nil_append, List.append_nil, List.length_cons, List.length_nil, List.replicate_succ, List.replicate_zero, Nat.reduceAdd, Nat.reduceSub]
                        refine zz_cV1 dX8_read_122 lX8_41 rfl (os_4 hO) rfl rfl (Nat.le_of_ble_eq_true rfl) (Nat.le_of_ble_eq_true rfl) ?_
                        refine sp_close d hO g3 (by omega) (fun _ => ?_) (fun q => absurd g1 q)
                        try dsimp only [zz_s1, zz_s2, zz_kill, zz_ent, zz_fl, List.set_cons_zero, List.set_cons_succ, List.getElem?_cons_zero, List.getElem?_cons_succ, Option.toList_some, Option.toList_none, List.cons_append, List.nil_append, List.append_nil, List.length_cons, List.length_nil, List.replicate_succ, List.replicate_zero, Nat.reduceAdd, Nat.reduceSub]
                        refine zz_iconst (v := 0) (by decide) dX8_read_125 ?_
                        refine zz_istore_n dX8_read_126 (by decide) ?_
                        refine zz_goto (tgt := 153) dX8_read_127 (by decide) ?_
                        refine zz_iinc dX8_read_153 rfl (congrArg (HAdd.hAdd _) (show Int32.ofInt 1 = 1 by decide)) (by decide) ?_
                        refine zz_goto (tgt := 19) dX8_read_156 (by decide) ?_
                        try dsimp only [zz_s1, zz_s2, zz_kill, zz_ent, zz_fl, List.set_cons_zero, List.set_cons_succ, List.getElem?_cons_zero, List.getElem?_cons_succ, Option.toList_some, Option.toList_none, List.cons_append, List.nil_append, List.append_nil, List.length_cons, List.length_nil, List.replicate_succ, List.replicate_zero, Nat.reduceAdd, Nat.reduceSub]
                        rw [nI_1]
                        refine ih (k + 1) _ 0 (rd ++ [set]) _ (by omega) (by simp; omega) (fun c c1 c2 => ?_) ?_ ?_ ?_ (fun i hi => ?_) (fun I' a b => hq I' a ?_)
                        · rw [zz_ui_ne _ _ _ c1, zz_ui_ne _ _ _ c2]; exact hf c c1 c2
                        · rw [zz_ui_at, pk_un (by decide), zz_ui_ne _ _ _ (by decide)]; exact g1
                        · rw [zz_ui_at, pk_un (by decide), zz_ui_ne _ _ _ (by decide)]; exact g2
                        · rw [zz_ui_at, pk_us, List.length_append]; rfl
                        · rw [List.length_append] at hi
                          rw [zz_ui_ne _ _ _ (by decide), zz_ui_at, getD_app hi]
                          by_cases e : i = rd.length
                          · subst e; simp [upd]
                          · rw [pk_un e, if_neg e]; exact g4 i (by simp at hi; omega)
                        · unfold prs
                          rw [if_neg nb, if_pos e59, if_neg hs, if_neg hfull]
                          exact b
                      · exact absurd (nI_lt (a := rd.length + 1) (b := 24) (by omega) (by decide)) h6
                  · exact absurd h5 hs
            · exact absurd rfl h3
  refine loop n 0 _ 0 [] _ (by omega) (by simp) (fun c c1 c2 => ?_) ?_ ?_ ?_ (fun i hi => absurd hi (Nat.not_lt_zero i)) hQ
  · rw [zz_ui_ne _ _ _ c1, zz_ui_ne _ _ _ c1, zz_ui_ne _ _ _ c1]
  · simp [zz_ui_at, upd]
  · simp [zz_ui_at, upd]
  · simp only [zz_ui_at]; rw [pk_un (by decide), pk_un (by decide), pk_us]; rfl
end PRead

