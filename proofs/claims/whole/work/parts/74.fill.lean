/-! ===== the class's search for heaps: filling ===== -/
def FSP (M : zz_M) (n k w : Nat) (E : Nat → Nat → Bool) (c : Nat) : Prop := ∀ (d : Nat) (I : zz_I) (J : zz_J) (Q : zz_Q) (left : Int32) (u dep : Nat) (P : Nat → Bool) (g : Nat → Nat), CV I n k w E → CF I n u E P g → hp_w n E u P g → u ≤ k → (∀ x, bt left x = true ↔ x < n ∧ P x = false) → fb_ct (bt left) 32 ≤ c → dep + fb_ct (bt left) 32 ≤ 24 → (∀ (I' : zz_I) (r : Int32), (∀ a, a ≠ 12 → a ≠ 13 → I' a = I a) → bo r (hp_x n E k P g) → (r = 0 → ∀ h, h < u → I' 12 h = I 12 h ∧ I' 13 h = I 13 h) → Q (some (.int r)) M I' J) → zz_D mX2_fill (d + c + 2) [.ref 10, .int left, .int (nI u), .int (nI dep)] M I J Q
theorem ubit (x : Int32) {a : Nat} (ha : a < 32) : (jv_ushr x (nI a) &&& 1 = 0) ↔ bt x a = false := by
  have := bt1_iff x ha
  unfold bt1 at this
  cases c : bt x a with
  | false => rw [c] at this; exact ⟨fun _ => rfl, fun _ => Classical.byContradiction fun z => by have := this.mp z; cases this⟩
  | true => rw [c] at this; exact ⟨fun z => absurd z (this.mpr rfl), fun z => by cases z⟩
theorem bt_off (x : Int32) {v : Nat} (hv : v < 32) (i : Nat) : bt (x &&& (((1 : Int32) <<< (nI v &&& 31)) ^^^ (-1))) i = rm (bt x) v i := by
  unfold rm
  by_cases hi : i < 32
  · rw [b_and, b_xor, b_m1 i hi, b_bit hv hi, Bool.xor_true]
  · rw [b_big (by omega), b_big (by omega)]; rfl
theorem CF_kp {I I' : zz_I} {n u : Nat} {E : Nat → Nat → Bool} {P : Nat → Bool} {g : Nat → Nat} (h : ∀ h, h < u → I' 12 h = I 12 h ∧ I' 13 h = I 13 h) (hF : CF I n u E P g) : CF I' n u E P g := fun i hi => by
  rw [(h i hi).1, (h i hi).2]
  exact hF i hi
theorem bt_nz {x : Int32} (h : ¬ x = 0) : ∃ i, i < 32 ∧ bt x i = true := Classical.byContradiction fun z => h (b_ext (fun i hi => by
  rw [b_0]
  cases c : bt x i with
  | false => rfl
  | true => exact absurd ⟨i, hi, c⟩ z))
section PFill
variable {M : zz_M} {n k w : Nat} {E : Nat → Nat → Bool}
theorem FSP_body (hO : OK M) (hn : n ≤ 24) (hk : k ≤ 24) (hw : w ≤ 24) (hE : wfE n E) (hb : hp_b n E w) (c : Nat) (rec : ∀ c', c = c' + 1 → FSP M n k w E c') : FSP M n k w E c := by
  intro d I J Q left u dep P g hV hF hW hu hL hc hdep hQ
  have sy : ∀ x y, E x y = true → E y x = true := fun x y z => (hE x y z).2.2.2
  have hl24 : ∀ x, bt left x = true → x < 24 := fun x hx => by have := ((hL x).mp hx).1; omega
  refine zz_D_of rfl (Nat.le_of_ble_eq_true rfl) ?_
  try dsimp only [zz_s1, zz_s2, zz_kill, zz_ent, zz_fl, List.set_cons_zero, List.set_cons_succ, List.getElem?_cons_zero, List.getElem?_cons_succ, Option.toList_some, Option.toList_none, List.cons_append, List.nil_append, List.append_nil, List.length_cons, List.length_nil, List.replicate_succ, List.replicate_zero, Nat.reduceAdd, Nat.reduceSub]
  refine zz_iload_n rfl dX2_fill_0 ?_
  try dsimp only [zz_s1, zz_s2, zz_kill, zz_ent, zz_fl, List.set_cons_zero, List.set_cons_succ, List.getElem?_cons_zero, List.getElem?_cons_succ, Option.toList_some, Option.toList_none, List.cons_append, List.nil_append, List.append_nil, List.length_cons, List.length_nil, List.replicate_succ, List.replicate_zero, Nat.reduceAdd, Nat.reduceSub]
  refine zz_if_ne (tgt := 6) dX2_fill_1 (by decide) (fun h => ?_) (fun h => ?_)
  rotate_left
  · skip
    refine zz_iconst (v := 1) (by decide) dX2_fill_4 ?_
    refine zz_ireturn dX2_fill_5 rfl (by first | rfl | decide | assumption) ?_
    refine hQ I 1 (fun _ _ _ => rfl) (bo.one (hp_all hW hu (fun x hx => ?_))) (fun z => absurd z (by decide))
    cases p : P x with
    | true => rfl
    | false => have := (hL x).mpr ⟨hx, p⟩; rw [h, b_0] at this; cases this
  have hpos : 1 ≤ fb_ct (bt left) 32 := by
    obtain ⟨i, i1, i2⟩ := bt_nz h
    exact fb_ct_pos.mpr ⟨i, i1, i2⟩
  obtain ⟨c', rfl⟩ : ∃ c', c = c' + 1 := ⟨c - 1, by omega⟩
  have ih := rec c' rfl
  refine zz_iload_n rfl dX2_fill_6 ?_
  refine zz_bipush (v := 24) (by decide) dX2_fill_7 ?_
  try dsimp only [zz_s1, zz_s2, zz_kill, zz_ent, zz_fl, List.set_cons_zero, List.set_cons_succ, List.getElem?_cons_zero, List.getElem?_cons_succ, Option.toList_some, Option.toList_none, List.cons_append, List.nil_append, List.append_nil, List.length_cons, List.length_nil, List.replicate_succ, List.replicate_zero, Nat.reduceAdd, Nat.reduceSub]
  refine zz_icmp_gt (tgt := 21) dX2_fill_9 (by decide) (fun h2 => ?_) (fun h2 => ?_)
  · exact absurd h2 (Int32.not_lt.mpr (nI_le (b := 24) (by omega) (by decide)))
  refine zz_aload_n rfl dX2_fill_12 ?_
  refine zz_iload_n rfl dX2_fill_13 ?_
  refine zz_iload_n rfl dX2_fill_14 ?_
  try dsimp only [zz_s1, zz_s2, zz_kill, zz_ent, zz_fl, List.set_cons_zero, List.set_cons_succ, List.getElem?_cons_zero, List.getElem?_cons_succ, Option.toList_some, Option.toList_none, List.cons_append, List.nil_append, List.append_nil, List.length_cons, List.length_nil, List.replicate_succ, List.replicate_zero, Nat.reduceAdd, Nat.reduceSub]
  refine zz_cV2 dX2_fill_15 lX2_53 rfl (os_10 hO) rfl rfl (Nat.le_of_ble_eq_true rfl) (Nat.le_of_ble_eq_true rfl) ?_
  refine sp_hasRoom (d + (c' + 1)) hO hn hk hw hV hF hW hu hb hL (fun r hr => ?_)
  try dsimp only [zz_s1, zz_s2, zz_kill, zz_ent, zz_fl, List.set_cons_zero, List.set_cons_succ, List.getElem?_cons_zero, List.getElem?_cons_succ, Option.toList_some, Option.toList_none, List.cons_append, List.nil_append, List.append_nil, List.length_cons, List.length_nil, List.replicate_succ, List.replicate_zero, Nat.reduceAdd, Nat.reduceSub]
  refine zz_if_ne (tgt := 23) dX2_fill_18 (by decide) (fun h3 => ?_) (fun h3 => ?_)
  rotate_left
  · skip
    refine zz_iconst (v := 0) (by decide) dX2_fill_21 ?_
    refine zz_ireturn dX2_fill_22 rfl (by first | rfl | decide | assumption) ?_
    refine hQ I 0 (fun _ _ _ => rfl) (bo.zero ?_) (fun _ _ _ => ⟨rfl, rfl⟩)
    rcases hr with z | z
    · rw [z] at h3; exact absurd h3 (by decide)
    · exact z.2
  refine zz_iconst (v := 0) (by decide) dX2_fill_23 ?_
  refine zz_istore dX2_fill_24 (by decide) ?_
  refine zz_iconst (v := 0) (by decide) dX2_fill_26 ?_
  refine zz_istore dX2_fill_27 (by decide) ?_
  refine zz_iconst (v := 0) (by decide) dX2_fill_29 ?_
  refine zz_istore dX2_fill_30 (by decide) ?_
  try dsimp only [zz_s1, zz_s2, zz_kill, zz_ent, zz_fl, List.set_cons_zero, List.set_cons_succ, List.getElem?_cons_zero, List.getElem?_cons_succ, Option.toList_some, Option.toList_none, List.cons_append, List.nil_append, List.append_nil, List.length_cons, List.length_nil, List.replicate_succ, List.replicate_zero, Nat.reduceAdd, Nat.reduceSub]
  have K2 : ∀ (th x7 : Int32) (z4 z5 z6 : Option Value), (∃ x, bt th x = true) → (∀ x, bt th x = true → bt left x = true) → zz_G mX2_fill (d + (c' + 1) + 2) 0 109 [some (.ref 10), some (.int left), some (.int (nI u)), some (.int (nI dep)), z4, z5, z6, some (.int x7), none, none, none, none] [.int th, .ref 10] M I J Q := by
    intro th x7 z4 z5 z6 hex hsub
    refine zz_iload_n rfl dX2_fill_109 ?_
    try dsimp only [zz_s1, zz_s2, zz_kill, zz_ent, zz_fl, List.set_cons_zero, List.set_cons_succ, List.getElem?_cons_zero, List.getElem?_cons_succ, Option.toList_some, Option.toList_none, List.cons_append, List.nil_append, List.append_nil, List.length_cons, List.length_nil, List.replicate_succ, List.replicate_zero, Nat.reduceAdd, Nat.reduceSub]
    refine zz_cV2 dX2_fill_110 lX2_57 rfl (os_10 hO) rfl rfl (Nat.le_of_ble_eq_true rfl) (Nat.le_of_ble_eq_true rfl) ?_
    refine sp_loneliest (d + (c' + 1)) hO hn hV.1 hl24 (by obtain ⟨x, hx⟩ := hex; exact ⟨x, ((hL x).mp (hsub x hx)).1, hx⟩) (fun v hv htv => ?_)
    try dsimp only [zz_s1, zz_s2, zz_kill, zz_ent, zz_fl, List.set_cons_zero, List.set_cons_succ, List.getElem?_cons_zero, List.getElem?_cons_succ, Option.toList_some, Option.toList_none, List.cons_append, List.nil_append, List.append_nil, List.length_cons, List.length_nil, List.replicate_succ, List.replicate_zero, Nat.reduceAdd, Nat.reduceSub]
    have hvl := hsub v htv
    have hPv : P v = false := ((hL v).mp hvl).2
    refine zz_istore dX2_fill_113 (by decide) ?_
    refine zz_iload_n rfl dX2_fill_115 ?_
    refine zz_iconst (v := 1) (by decide) dX2_fill_116 ?_
    refine zz_iload rfl dX2_fill_117 ?_
    refine zz_ishl dX2_fill_119 ?_
    refine zz_iconst (v := (-1)) (by decide) dX2_fill_120 ?_
    refine zz_ixor dX2_fill_121 ?_
    refine zz_iand dX2_fill_122 ?_
    refine zz_istore dX2_fill_123 (by decide) ?_
    refine zz_iconst (v := 0) (by decide) dX2_fill_125 ?_
    refine zz_istore dX2_fill_126 (by decide) ?_
    try dsimp only [zz_s1, zz_s2, zz_kill, zz_ent, zz_fl, List.set_cons_zero, List.set_cons_succ, List.getElem?_cons_zero, List.getElem?_cons_succ, Option.toList_some, Option.toList_none, List.cons_append, List.nil_append, List.append_nil, List.length_cons, List.length_nil, List.replicate_succ, List.replicate_zero, Nat.reduceAdd, Nat.reduceSub]
    generalize hrest : left &&& (((1 : Int32) <<< (nI v &&& 31)) ^^^ (-1)) = rest
    have hrb : ∀ x, bt rest x = rm (bt left) v x := fun x => by rw [← hrest]; exact bt_off left (by omega) x
    have hrc : fb_ct (bt rest) 32 + 1 = fb_ct (bt left) 32 := by
      rw [fb_ct_cong (fun x _ => hrb x)]
      exact ct_rm (by omega) hvl
    have hrL : ∀ x, bt rest x = true ↔ x < n ∧ hp_p P v x = false := fun x => by
      rw [hrb, rm_t, hL]
      unfold hp_p
      simp [and_assoc]
    have loop : ∀ (q h : Nat) (Ix : zz_I) (z11 : Option Value), h + q = u → (∀ a, a ≠ 12 → a ≠ 13 → Ix a = I a) → (∀ h', h' < u → Ix 12 h' = I 12 h' ∧ Ix 13 h' = I 13 h') → (∀ h', h' < h → ¬ hp_x n E k (hp_p P v) (hp_u g v h')) → zz_G mX2_fill (d + (c' + 1) + 2) 0 128 [some (.ref 10), some (.int left), some (.int (nI u)), some (.int (nI dep)), z4, z5, z6, some (.int x7), some (.int (nI v)), some (.int rest), some (.int (nI h)), z11] [] M Ix J Q := by
      intro q
      induction q with
      | zero =>
        intro h Ix z11 hh f1 f2 f3
        have e : h = u := by omega
        subst e
        have hVx := CV_of f1 hV
        refine zz_iload rfl dX2_fill_128 ?_
        refine zz_iload_n rfl dX2_fill_130 ?_
        try dsimp only [zz_s1, zz_s2, zz_kill, zz_ent, zz_fl, List.set_cons_zero, List.set_cons_succ, List.getElem?_cons_zero, List.getElem?_cons_succ, Option.toList_some, Option.toList_none, List.cons_append, List.nil_append, List.append_nil, List.length_cons, List.length_nil, List.replicate_succ, List.replicate_zero, Nat.reduceAdd, Nat.reduceSub]
        refine zz_icmp_ge (tgt := 202) dX2_fill_131 (by decide) (fun q1 => ?_) (fun q1 => ?_)
        · refine zz_iload_n rfl dX2_fill_202 ?_
          refine zz_aload_n rfl dX2_fill_203 ?_
          refine zz_geti dX2_fill_204 fX2_25 rfl (os_10 hO) ?_
          try dsimp only [zz_s1, zz_s2, zz_kill, zz_ent, zz_fl, List.set_cons_zero, List.set_cons_succ, List.getElem?_cons_zero, List.getElem?_cons_succ, Option.toList_some, Option.toList_none, List.cons_append, List.nil_append, List.append_nil, List.length_cons, List.length_nil, List.replicate_succ, List.replicate_zero, Nat.reduceAdd, Nat.reduceSub]
          rw [hVx.2.1]
          refine zz_icmp_lt (tgt := 212) dX2_fill_207 (by decide) (fun q2 => ?_) (fun q2 => ?_)
          · have huk : h < k := (nI_ltI (by omega) (by omega)).mp q2
            refine zz_aload_n rfl dX2_fill_212 ?_
            refine zz_getr dX2_fill_213 fX2_15 (fun _ _ _ _ => rfl) (os_10 hO) (or_10_1 hO) ?_
            refine zz_iload_n rfl dX2_fill_216 ?_
            refine zz_aload_n rfl dX2_fill_217 ?_
            refine zz_getr dX2_fill_218 fX2_9 (fun _ _ _ _ => rfl) (os_10 hO) (or_10_0 hO) ?_
            refine zz_iload rfl dX2_fill_221 ?_
            refine zz_iald dX2_fill_223 (os_11 hO) (vp_in_nI (show v < 24 by omega) (by decide)) ?_
            refine zz_iast dX2_fill_224 (os_12 hO) (vp_in_nI (show h < 24 by omega) (by decide)) ?_
            refine zz_aload_n rfl dX2_fill_225 ?_
            refine zz_getr dX2_fill_226 fX2_18 (fun _ _ _ _ => rfl) (os_10 hO) (or_10_2 hO) ?_
            refine zz_iload_n rfl dX2_fill_229 ?_
            refine zz_iconst (v := 1) (by decide) dX2_fill_230 ?_
            refine zz_iast dX2_fill_231 (os_13 hO) (vp_in_nI (show h < 24 by omega) (by decide)) ?_
            refine zz_aload_n rfl dX2_fill_232 ?_
            refine zz_iload rfl dX2_fill_233 ?_
            refine zz_iload_n rfl dX2_fill_235 ?_
            refine zz_iconst (v := 1) (by decide) dX2_fill_236 ?_
            refine zz_iadd dX2_fill_237 ?_
            refine zz_iload_n rfl dX2_fill_238 ?_
            refine zz_iconst (v := 1) (by decide) dX2_fill_239 ?_
            refine zz_iadd dX2_fill_240 ?_
            try dsimp only [zz_s1, zz_s2, zz_kill, zz_ent, zz_fl, List.set_cons_zero, List.set_cons_succ, List.getElem?_cons_zero, List.getElem?_cons_succ, Option.toList_some, Option.toList_none, List.cons_append, List.nil_append, List.append_nil, List.length_cons, List.length_nil, List.replicate_succ, List.replicate_zero, Nat.reduceAdd, Nat.reduceSub]
            rw [nI_clamp (show v < 2 ^ 31 by omega), nI_clamp (show h < 2 ^ 31 by omega), nI_1, nI_1]
            have f0 : ∀ a, a ≠ 12 → a ≠ 13 → zz_ui (zz_ui Ix 12 h (Ix 11 v)) 13 h 1 a = I a := fun a a1 a2 => by rw [zz_ui_ne _ _ _ a2, zz_ui_ne _ _ _ a1]; exact f1 a a1 a2
            have hff : hp_f n E P g h v := fun b hb' pb e => by have := hW.1 b hb' pb; omega
            have hF1 : CF (zz_ui (zz_ui Ix 12 h (Ix 11 v)) 13 h 1) n (h + 1) E (hp_p P v) (hp_u g v h) := by
              intro h' hh'
              rw [zz_ui_ne _ _ _ (by decide), zz_ui_at, zz_ui_at, zz_ui_ne _ _ _ (by decide)]
              by_cases e : h' = h
              · subst e
                refine ⟨fun x hx => ?_, ?_⟩
                · rw [pk_us, hVx.2.2.2 v hv x (by omega), hp_f_add hv hPv]
                  exact ⟨fun z => ⟨fun b hb' pb e => by have := hW.1 b hb' pb; omega, fun _ => z⟩, fun z => z.2 rfl⟩
                · rw [pk_us, hp_c_add (by omega) hv hPv, if_pos rfl]
                  have : hp_c n P g h' = 0 := fb_ct_zero.mpr (fun x _ => by
                    cases z : (decide (x < n) && P x && decide (g x = h')) with
                    | false => rfl
                    | true =>
                      simp at z
                      have := hW.1 x z.1.1 z.1.2
                      omega)
                  rw [this]
                  rfl
              · obtain ⟨q3, q4⟩ := hF h' (by omega)
                obtain ⟨q5, q6⟩ := f2 h' (by omega)
                refine ⟨fun x hx => ?_, ?_⟩
                · rw [pk_un e, q5, q3 x hx, hp_f_add hv hPv]
                  exact ⟨fun z => ⟨z, fun y => absurd y e⟩, fun z => z.1⟩
                · rw [pk_un e, q6, q4, hp_c_add (by omega) hv hPv, if_neg e, Nat.add_zero]
            refine zz_cV3 dX2_fill_241 lX2_41 rfl (os_10 hO) rfl rfl (Nat.le_of_ble_eq_true rfl) (Nat.le_of_ble_eq_true rfl) ?_
            refine ih d _ J _ rest (h + 1) (dep + 1) (hp_p P v) (hp_u g v h) (CV_of f0 hV) hF1 (hp_w_add sy hW (Nat.lt_succ_self h) (Nat.le_succ h) hff) huk hrL (by omega) (by omega) (fun I' r k1 k2 k3 => ?_)
            try dsimp only [zz_s1, zz_s2, zz_kill, zz_ent, zz_fl, List.set_cons_zero, List.set_cons_succ, List.getElem?_cons_zero, List.getElem?_cons_succ, Option.toList_some, Option.toList_none, List.cons_append, List.nil_append, List.append_nil, List.length_cons, List.length_nil, List.replicate_succ, List.replicate_zero, Nat.reduceAdd, Nat.reduceSub]
            refine zz_ireturn dX2_fill_244 rfl k2.nar ?_
            refine hQ I' r (fun a a1 a2 => (k1 a a1 a2).trans (f0 a a1 a2)) (bo.iff k2 ⟨fun z => hp_dn hPv z, fun z => ?_⟩) (fun z h' hh' => ?_)
            · rcases hp_br hv hPv hW.1 z with ⟨h', y1, y2, y3, y4⟩ | y
              · exact absurd y4 (f3 h' y1)
              · exact y.2
            · obtain ⟨q5, q6⟩ := k3 z h' (by omega)
              rw [zz_ui_ne _ _ _ (by decide), zz_ui_at, pk_un (by omega)] at q5
              rw [zz_ui_at, pk_un (by omega), zz_ui_ne _ _ _ (by decide)] at q6
              rw [q5, q6]
              exact f2 h' hh'
          · skip
            have huk : ¬ h < k := fun z => q2 (nI_lt z (by omega))
            refine zz_iconst (v := 0) (by decide) dX2_fill_210 ?_
            refine zz_ireturn dX2_fill_211 rfl (by first | rfl | decide | assumption) ?_
            refine hQ Ix 0 f1 (bo.zero fun z => ?_) (fun _ => f2)
            rcases hp_br hv hPv hW.1 z with ⟨h', y1, y2, y3, y4⟩ | y
            · exact f3 h' y1 y4
            · exact huk y.1
        · exact absurd (nI_le (Nat.le_refl h) (by omega)) q1
      | succ q ih2 =>
        intro h Ix z11 hh f1 f2 f3
        have hVx := CV_of f1 hV
        have hFx := CF_kp f2 hF
        obtain ⟨g1, g2⟩ := hFx h (by omega)
        have eb := ubit (Ix 12 h) (show v < 32 by omega)
        refine zz_iload rfl dX2_fill_128 ?_
        refine zz_iload_n rfl dX2_fill_130 ?_
        try dsimp only [zz_s1, zz_s2, zz_kill, zz_ent, zz_fl, List.set_cons_zero, List.set_cons_succ, List.getElem?_cons_zero, List.getElem?_cons_succ, Option.toList_some, Option.toList_none, List.cons_append, List.nil_append, List.append_nil, List.length_cons, List.length_nil, List.replicate_succ, List.replicate_zero, Nat.reduceAdd, Nat.reduceSub]
        refine zz_icmp_ge (tgt := 202) dX2_fill_131 (by decide) (fun q1 => ?_) (fun q1 => ?_)
        · exact absurd q1 (nI_ge (by omega) (by omega))
        refine zz_aload_n rfl dX2_fill_134 ?_
        refine zz_getr dX2_fill_135 fX2_15 (fun _ _ _ _ => rfl) (os_10 hO) (or_10_1 hO) ?_
        refine zz_iload rfl dX2_fill_138 ?_
        refine zz_iald dX2_fill_140 (os_12 hO) (vp_in_nI (show h < 24 by omega) (by decide)) ?_
        refine zz_istore dX2_fill_141 (by decide) ?_
        refine zz_iload rfl dX2_fill_143 ?_
        refine zz_iload rfl dX2_fill_145 ?_
        refine zz_iushr dX2_fill_147 ?_
        refine zz_iconst (v := 1) (by decide) dX2_fill_148 ?_
        refine zz_iand dX2_fill_149 ?_
        try dsimp only [zz_s1, zz_s2, zz_kill, zz_ent, zz_fl, List.set_cons_zero, List.set_cons_succ, List.getElem?_cons_zero, List.getElem?_cons_succ, Option.toList_some, Option.toList_none, List.cons_append, List.nil_append, List.append_nil, List.length_cons, List.length_nil, List.replicate_succ, List.replicate_zero, Nat.reduceAdd, Nat.reduceSub]
        rw [nI_clamp (show h < 2 ^ 31 by omega)]
        refine zz_if_eq (tgt := 196) dX2_fill_150 (by decide) (fun q2 => ?_) (fun q2 => ?_)
        · have hnf : ¬ hp_f n E P g h v := fun z => by have := (g1 v hv).mpr z; rw [eb.mp q2] at this; cases this
          refine zz_iinc dX2_fill_196 rfl (congrArg (HAdd.hAdd _) (show Int32.ofInt 1 = 1 by decide)) (by decide) ?_
          refine zz_goto (tgt := 128) dX2_fill_199 (by decide) ?_
          try dsimp only [zz_s1, zz_s2, zz_kill, zz_ent, zz_fl, List.set_cons_zero, List.set_cons_succ, List.getElem?_cons_zero, List.getElem?_cons_succ, Option.toList_some, Option.toList_none, List.cons_append, List.nil_append, List.append_nil, List.length_cons, List.length_nil, List.replicate_succ, List.replicate_zero, Nat.reduceAdd, Nat.reduceSub]
          rw [nI_1]
          refine ih2 (h + 1) Ix _ (by omega) f1 f2 (fun h' hh' => ?_)
          by_cases e : h' = h
          · rw [e]; exact hp_nf hv hPv hnf
          · exact f3 h' (by omega)
        have hff : hp_f n E P g h v := (g1 v hv).mp (by
          cases z : bt (Ix 12 h) v with
          | true => rfl
          | false => exact absurd (eb.mpr z) q2)
        refine zz_aload_n rfl dX2_fill_153 ?_
        refine zz_iload rfl dX2_fill_154 ?_
        refine zz_iload rfl dX2_fill_156 ?_
        try dsimp only [zz_s1, zz_s2, zz_kill, zz_ent, zz_fl, List.set_cons_zero, List.set_cons_succ, List.getElem?_cons_zero, List.getElem?_cons_succ, Option.toList_some, Option.toList_none, List.cons_append, List.nil_append, List.append_nil, List.length_cons, List.length_nil, List.replicate_succ, List.replicate_zero, Nat.reduceAdd, Nat.reduceSub]
        refine zz_cV2 dX2_fill_158 lX2_49 rfl (os_10 hO) rfl rfl (Nat.le_of_ble_eq_true rfl) (Nat.le_of_ble_eq_true rfl) ?_
        refine sp_X2_add (d + (c' + 1) + 1) hO (show v < 24 by omega) (show h < 24 by omega) (fun Iy k1 k2 k3 => ?_)
        try dsimp only [zz_s1, zz_s2, zz_kill, zz_ent, zz_fl, List.set_cons_zero, List.set_cons_succ, List.getElem?_cons_zero, List.getElem?_cons_succ, Option.toList_some, Option.toList_none, List.cons_append, List.nil_append, List.append_nil, List.length_cons, List.length_nil, List.replicate_succ, List.replicate_zero, Nat.reduceAdd, Nat.reduceSub]
        refine zz_aload_n rfl dX2_fill_161 ?_
        refine zz_iload rfl dX2_fill_162 ?_
        refine zz_iload_n rfl dX2_fill_164 ?_
        refine zz_iload_n rfl dX2_fill_165 ?_
        refine zz_iconst (v := 1) (by decide) dX2_fill_166 ?_
        refine zz_iadd dX2_fill_167 ?_
        try dsimp only [zz_s1, zz_s2, zz_kill, zz_ent, zz_fl, List.set_cons_zero, List.set_cons_succ, List.getElem?_cons_zero, List.getElem?_cons_succ, Option.toList_some, Option.toList_none, List.cons_append, List.nil_append, List.append_nil, List.length_cons, List.length_nil, List.replicate_succ, List.replicate_zero, Nat.reduceAdd, Nat.reduceSub]
        rw [nI_1]
        have f0 : ∀ a, a ≠ 12 → a ≠ 13 → Iy a = I a := fun a a1 a2 => (k1 a a1 a2).trans (f1 a a1 a2)
        refine zz_cV3 dX2_fill_168 lX2_41 rfl (os_10 hO) rfl rfl (Nat.le_of_ble_eq_true rfl) (Nat.le_of_ble_eq_true rfl) ?_
        refine ih d Iy J _ rest u (dep + 1) (hp_p P v) (hp_u g v h) (CV_of f0 hV) (CF_add hn hv hPv hVx hFx k2 k3) (hp_w_add sy hW (show h < u by omega) (Nat.le_refl u) hff) hu hrL (by omega) (by omega) (fun I' r j1 j2 j3 => ?_)
        try dsimp only [zz_s1, zz_s2, zz_kill, zz_ent, zz_fl, List.set_cons_zero, List.set_cons_succ, List.getElem?_cons_zero, List.getElem?_cons_succ, Option.toList_some, Option.toList_none, List.cons_append, List.nil_append, List.append_nil, List.length_cons, List.length_nil, List.replicate_succ, List.replicate_zero, Nat.reduceAdd, Nat.reduceSub]
        refine zz_if_eq (tgt := 176) dX2_fill_171 (by decide) (fun q3 => ?_) (fun q3 => ?_)
        · have hno := j2.f q3
          have j3 := j3 q3
          refine zz_aload_n rfl dX2_fill_176 ?_
          refine zz_getr dX2_fill_177 fX2_15 (fun _ _ _ _ => rfl) (os_10 hO) (or_10_1 hO) ?_
          refine zz_iload rfl dX2_fill_180 ?_
          refine zz_iload rfl dX2_fill_182 ?_
          refine zz_iast dX2_fill_184 (os_12 hO) (vp_in_nI (show h < 24 by omega) (by decide)) ?_
          refine zz_aload_n rfl dX2_fill_185 ?_
          refine zz_getr dX2_fill_186 fX2_18 (fun _ _ _ _ => rfl) (os_10 hO) (or_10_2 hO) ?_
          refine zz_iload rfl dX2_fill_189 ?_
          refine zz_dup2 rfl rfl dX2_fill_191 ?_
          refine zz_iald dX2_fill_192 (os_13 hO) (vp_in_nI (show h < 24 by omega) (by decide)) ?_
          refine zz_iconst (v := 1) (by decide) dX2_fill_193 ?_
          refine zz_isub dX2_fill_194 ?_
          refine zz_iast dX2_fill_195 (os_13 hO) (vp_in_nI (show h < 24 by omega) (by decide)) ?_
          refine zz_iinc dX2_fill_196 rfl (congrArg (HAdd.hAdd _) (show Int32.ofInt 1 = 1 by decide)) (by decide) ?_
          refine zz_goto (tgt := 128) dX2_fill_199 (by decide) ?_
          try dsimp only [zz_s1, zz_s2, zz_kill, zz_ent, zz_fl, List.set_cons_zero, List.set_cons_succ, List.getElem?_cons_zero, List.getElem?_cons_succ, Option.toList_some, Option.toList_none, List.cons_append, List.nil_append, List.append_nil, List.length_cons, List.length_nil, List.replicate_succ, List.replicate_zero, Nat.reduceAdd, Nat.reduceSub]
          rw [nI_1, nI_clamp (show h < 2 ^ 31 by omega), zz_ui_ne _ _ _ (by decide)]
          refine ih2 (h + 1) _ _ (by omega) (fun a a1 a2 => ?_) (fun h' hh' => ?_) (fun h' hh' => ?_)
          · rw [zz_ui_ne _ _ _ a2, zz_ui_ne _ _ _ a1, j1 a a1 a2]; exact f0 a a1 a2
          · rw [zz_ui_ne _ _ _ (by decide), zz_ui_at, zz_ui_at, zz_ui_ne _ _ _ (by decide)]
            obtain ⟨q5, q6⟩ := j3 h' hh'
            obtain ⟨q7, q8⟩ := f2 h' hh'
            by_cases e : h' = h
            · subst e
              rw [pk_us, pk_us, q6, k3, pk_us, Int32.add_sub_cancel]
              exact ⟨q7, q8⟩
            · rw [pk_un e, pk_un e, q5, q6, k2, k3, pk_un e, pk_un e]
              exact ⟨q7, q8⟩
          · by_cases e : h' = h
            · rw [e]; exact hno
            · exact f3 h' (by omega)
        · skip
          refine zz_iconst (v := 1) (by decide) dX2_fill_174 ?_
          refine zz_ireturn dX2_fill_175 rfl (by first | rfl | decide | assumption) ?_
          exact hQ I' 1 (fun a a1 a2 => (j1 a a1 a2).trans (f0 a a1 a2)) (bo.one (hp_dn hPv (j2.t q3))) (fun z => absurd z (by decide))
    exact loop u 0 I _ (by omega) (fun _ _ _ => rfl) (fun _ _ => ⟨rfl, rfl⟩) (fun h' hh' => by omega)
  have K : ∀ (o t : Int32) (z6 : Option Value), zz_G mX2_fill (d + (c' + 1) + 2) 0 71 [some (.ref 10), some (.int left), some (.int (nI u)), some (.int (nI dep)), some (.int o), some (.int t), z6, none, none, none, none, none] [] M I J Q := by
    intro o t z6
    refine zz_iload_n rfl dX2_fill_71 ?_
    refine zz_iload rfl dX2_fill_72 ?_
    refine zz_iconst (v := (-1)) (by decide) dX2_fill_74 ?_
    refine zz_ixor dX2_fill_75 ?_
    refine zz_iand dX2_fill_76 ?_
    refine zz_istore dX2_fill_77 (by decide) ?_
    refine zz_iload_n rfl dX2_fill_79 ?_
    refine zz_iload rfl dX2_fill_80 ?_
    refine zz_iconst (v := (-1)) (by decide) dX2_fill_82 ?_
    refine zz_ixor dX2_fill_83 ?_
    refine zz_iand dX2_fill_84 ?_
    refine zz_istore dX2_fill_85 (by decide) ?_
    refine zz_aload_n rfl dX2_fill_87 ?_
    refine zz_iload rfl dX2_fill_88 ?_
    try dsimp only [zz_s1, zz_s2, zz_kill, zz_ent, zz_fl, List.set_cons_zero, List.set_cons_succ, List.getElem?_cons_zero, List.getElem?_cons_succ, Option.toList_some, Option.toList_none, List.cons_append, List.nil_append, List.append_nil, List.length_cons, List.length_nil, List.replicate_succ, List.replicate_zero, Nat.reduceAdd, Nat.reduceSub]
    refine zz_if_eq (tgt := 98) dX2_fill_90 (by decide) (fun q1 => ?_) (fun q1 => ?_)
    · refine zz_iload rfl dX2_fill_98 ?_
      try dsimp only [zz_s1, zz_s2, zz_kill, zz_ent, zz_fl, List.set_cons_zero, List.set_cons_succ, List.getElem?_cons_zero, List.getElem?_cons_succ, Option.toList_some, Option.toList_none, List.cons_append, List.nil_append, List.append_nil, List.length_cons, List.length_nil, List.replicate_succ, List.replicate_zero, Nat.reduceAdd, Nat.reduceSub]
      refine zz_if_eq (tgt := 108) dX2_fill_100 (by decide) (fun q2 => ?_) (fun q2 => ?_)
      · refine zz_iload_n rfl dX2_fill_108 ?_
        try dsimp only [zz_s1, zz_s2, zz_kill, zz_ent, zz_fl, List.set_cons_zero, List.set_cons_succ, List.getElem?_cons_zero, List.getElem?_cons_succ, Option.toList_some, Option.toList_none, List.cons_append, List.nil_append, List.append_nil, List.length_cons, List.length_nil, List.replicate_succ, List.replicate_zero, Nat.reduceAdd, Nat.reduceSub]
        obtain ⟨i, i1, i2⟩ := bt_nz h
        exact K2 left _ _ _ _ ⟨i, i2⟩ (fun x hx => hx)
      · skip
        refine zz_iload rfl dX2_fill_103 ?_
        refine zz_goto (tgt := 109) dX2_fill_105 (by decide) ?_
        try dsimp only [zz_s1, zz_s2, zz_kill, zz_ent, zz_fl, List.set_cons_zero, List.set_cons_succ, List.getElem?_cons_zero, List.getElem?_cons_succ, Option.toList_some, Option.toList_none, List.cons_append, List.nil_append, List.append_nil, List.length_cons, List.length_nil, List.replicate_succ, List.replicate_zero, Nat.reduceAdd, Nat.reduceSub]
        obtain ⟨i, i1, i2⟩ := bt_nz q2
        exact K2 _ _ _ _ _ ⟨i, i2⟩ (fun x hx => by rw [b_and, Bool.and_eq_true] at hx; exact hx.1)
    · skip
      refine zz_iload rfl dX2_fill_93 ?_
      refine zz_goto (tgt := 109) dX2_fill_95 (by decide) ?_
      try dsimp only [zz_s1, zz_s2, zz_kill, zz_ent, zz_fl, List.set_cons_zero, List.set_cons_succ, List.getElem?_cons_zero, List.getElem?_cons_succ, Option.toList_some, Option.toList_none, List.cons_append, List.nil_append, List.append_nil, List.length_cons, List.length_nil, List.replicate_succ, List.replicate_zero, Nat.reduceAdd, Nat.reduceSub]
      obtain ⟨i, i1, i2⟩ := bt_nz q1
      exact K2 _ _ _ _ _ ⟨i, i2⟩ (fun x hx => by rw [b_and, Bool.and_eq_true] at hx; exact hx.1)
  have loop1 : ∀ (q h : Nat) (o t : Int32), h + q = u → zz_G mX2_fill (d + (c' + 1) + 2) 0 32 [some (.ref 10), some (.int left), some (.int (nI u)), some (.int (nI dep)), some (.int o), some (.int t), some (.int (nI h)), none, none, none, none, none] [] M I J Q := by
    intro q
    induction q with
    | zero =>
      intro h o t hh
      have e : h = u := by omega
      subst e
      refine zz_iload rfl dX2_fill_32 ?_
      refine zz_iload_n rfl dX2_fill_34 ?_
      try dsimp only [zz_s1, zz_s2, zz_kill, zz_ent, zz_fl, List.set_cons_zero, List.set_cons_succ, List.getElem?_cons_zero, List.getElem?_cons_succ, Option.toList_some, Option.toList_none, List.cons_append, List.nil_append, List.append_nil, List.length_cons, List.length_nil, List.replicate_succ, List.replicate_zero, Nat.reduceAdd, Nat.reduceSub]
      refine zz_icmp_ge (tgt := 71) dX2_fill_35 (by decide) (fun q1 => ?_) (fun q1 => ?_)
      · exact K o t _
      · exact absurd (nI_le (Nat.le_refl h) (by omega)) q1
    | succ q ih2 =>
      intro h o t hh
      refine zz_iload rfl dX2_fill_32 ?_
      refine zz_iload_n rfl dX2_fill_34 ?_
      try dsimp only [zz_s1, zz_s2, zz_kill, zz_ent, zz_fl, List.set_cons_zero, List.set_cons_succ, List.getElem?_cons_zero, List.getElem?_cons_succ, Option.toList_some, Option.toList_none, List.cons_append, List.nil_append, List.append_nil, List.length_cons, List.length_nil, List.replicate_succ, List.replicate_zero, Nat.reduceAdd, Nat.reduceSub]
      refine zz_icmp_ge (tgt := 71) dX2_fill_35 (by decide) (fun q1 => ?_) (fun q1 => ?_)
      · exact absurd q1 (nI_ge (by omega) (by omega))
      · skip
        refine zz_iload rfl dX2_fill_38 ?_
        refine zz_iload rfl dX2_fill_40 ?_
        refine zz_aload_n rfl dX2_fill_42 ?_
        refine zz_getr dX2_fill_43 fX2_15 (fun _ _ _ _ => rfl) (os_10 hO) (or_10_1 hO) ?_
        refine zz_iload rfl dX2_fill_46 ?_
        refine zz_iald dX2_fill_48 (os_12 hO) (vp_in_nI (show h < 24 by omega) (by decide)) ?_
        refine zz_iand dX2_fill_49 ?_
        refine zz_ior dX2_fill_50 ?_
        refine zz_istore dX2_fill_51 (by decide) ?_
        refine zz_iload rfl dX2_fill_53 ?_
        refine zz_aload_n rfl dX2_fill_55 ?_
        refine zz_getr dX2_fill_56 fX2_15 (fun _ _ _ _ => rfl) (os_10 hO) (or_10_1 hO) ?_
        refine zz_iload rfl dX2_fill_59 ?_
        refine zz_iald dX2_fill_61 (os_12 hO) (vp_in_nI (show h < 24 by omega) (by decide)) ?_
        refine zz_ior dX2_fill_62 ?_
        refine zz_istore dX2_fill_63 (by decide) ?_
        refine zz_iinc dX2_fill_65 rfl (congrArg (HAdd.hAdd _) (show Int32.ofInt 1 = 1 by decide)) (by decide) ?_
        refine zz_goto (tgt := 32) dX2_fill_68 (by decide) ?_
        try dsimp only [zz_s1, zz_s2, zz_kill, zz_ent, zz_fl, List.set_cons_zero, List.set_cons_succ, List.getElem?_cons_zero, List.getElem?_cons_succ, Option.toList_some, Option.toList_none, List.cons_append, List.nil_append, List.append_nil, List.length_cons, List.length_nil, List.replicate_succ, List.replicate_zero, Nat.reduceAdd, Nat.reduceSub]
        rw [nI_1]
        exact ih2 (h + 1) _ _ (by omega)
  exact loop1 u 0 0 0 (by omega)
theorem sp_fill (hO : OK M) (hn : n ≤ 24) (hk : k ≤ 24) (hw : w ≤ 24) (hE : wfE n E) (hb : hp_b n E w) : ∀ c, FSP M n k w E c
  | 0 => FSP_body hO hn hk hw hE hb 0 (fun c' h => by omega)
  | c + 1 => FSP_body hO hn hk hw hE hb (c + 1) (fun c' h => by cases h; exact sp_fill hO hn hk hw hE hb c)
end PFill

