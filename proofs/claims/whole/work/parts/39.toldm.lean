/-! ===== told of the reference ===== -/
section PToldM
variable {M : zz_M} {I : zz_I} {J : zz_J} {Q : zz_Q}
theorem sp_X10_told (d : Nat) (hO : OK M) {l : Int32} {n : Nat} {by_ : Nat → Nat} (hn : I 259 7 = nI n) (hn2 : n ≤ 600) (hby : ∀ i, i < n → by_ i < 256 ∧ I 266 i = jv_b (nI (by_ i)))
    (h1 : ∀ j f p, j < 8 → l = nI j → prs by_ n n 0 0 [] = .inl (f, p) → ∀ I' : zz_I, (∀ c, c ≠ 259 → c ≠ 267 → I' c = I c) → (∀ i, i ≠ 7 → i ≠ 8 → i ≠ 9 → I' 259 i = I 259 i) → I' 259 7 = 0 → I' 259 8 = f → I' 259 9 = p → Q (some (.int (-1))) M I' J)
    (h2 : ∀ j L, j < 8 → l = nI j → prs by_ n n 0 0 [] = .inr L → ∀ I' : zz_I, (∀ c, (c < 259 ∨ 265 < c) → c ≠ 267 → I' c = I c) → (∀ i, i ≠ 7 → i ≠ 8 → i ≠ 9 → I' 259 i = I 259 i) → I' 259 7 = 0 → I' 259 8 = 0 → I' 259 9 = -1 → FO j I I' → ML I' j L.length 1 (I 265 j + 1) (se (fun i => L.getD i 0) L.length 0) (fun a => if a < L.length then L.getD a 0 else 0) (fun _ _ => 0) → Q (some (.int (nI L.length))) M I' J)
    (h3 : ¬ vp_in l 8 → Q (some (.int (-2))) M (zz_ui I 259 7 0) J) : zz_D mX10_told (d + 2) [.ref 259, .int l] M I J Q := by
  generalize hP : prs by_ n n 0 0 [] = P0 at h1 h2
  refine zz_D_of rfl (Nat.le_of_ble_eq_true rfl) ?_
  try dsimp only [zz_s1, zz_s2, zz_kill, zz_ent, zz_fl, List.set_cons_zero, List.set_cons_succ, List.getElem?_cons_zero, List.getElem?_cons_succ, Option.toList_some, Option.toList_none, List.cons_append, List.nil_append, List.append_nil, List.length_cons, List.length_nil, List.replicate_succ, List.replicate_zero, Nat.reduceAdd, Nat.reduceSub]
  refine zz_aload_n rfl dX10_told_0 ?_
  refine zz_geti dX10_told_1 fX10_93 rfl (os_259 hO) ?_
  refine zz_istore_n dX10_told_4 (by decide) ?_
  refine zz_aload_n rfl dX10_told_5 ?_
  refine zz_iconst (v := 0) (by decide) dX10_told_6 ?_
  refine zz_puti dX10_told_7 fX10_93 rfl (fun q h => by cases h; rfl) (os_259 hO) ?_
  refine zz_iload_n rfl dX10_told_10 ?_
  try dsimp only [zz_s1, zz_s2, zz_kill, zz_ent, zz_fl, List.set_cons_zero, List.set_cons_succ, List.getElem?_cons_zero, List.getElem?_cons_succ, Option.toList_some, Option.toList_none, List.cons_append, List.nil_append, List.append_nil, List.length_cons, List.length_nil, List.replicate_succ, List.replicate_zero, Nat.reduceAdd, Nat.reduceSub]
  rw [hn]
  refine zz_cS1 dX10_told_11 lX10_85 rfl (Nat.le_of_ble_eq_true rfl) (Nat.le_of_ble_eq_true rfl) ?_
  refine sp_isLine d (fun r hr => ?_)
  try dsimp only [zz_s1, zz_s2, zz_kill, zz_ent, zz_fl, List.set_cons_zero, List.set_cons_succ, List.getElem?_cons_zero, List.getElem?_cons_succ, Option.toList_some, Option.toList_none, List.cons_append, List.nil_append, List.append_nil, List.length_cons, List.length_nil, List.replicate_succ, List.replicate_zero, Nat.reduceAdd, Nat.reduceSub]
  refine zz_if_ne (tgt := 20) dX10_told_14 (by decide) (fun h => ?_) (fun h => ?_)
  · obtain ⟨j, hj, rfl⟩ := vp_in_of (hr.t h) (by decide)
    refine zz_iconst (v := 0) (by decide) dX10_told_20 ?_
    refine zz_istore_n dX10_told_21 (by decide) ?_
    refine zz_iconst (v := 0) (by decide) dX10_told_22 ?_
    refine zz_istore dX10_told_23 (by decide) ?_
    refine zz_iconst (v := 0) (by decide) dX10_told_25 ?_
    refine zz_istore dX10_told_26 (by decide) ?_
    try dsimp only [zz_s1, zz_s2, zz_kill, zz_ent, zz_fl, List.set_cons_zero, List.set_cons_succ, List.getElem?_cons_zero, List.getElem?_cons_succ, Option.toList_some, Option.toList_none, List.cons_append, List.nil_append, List.append_nil, List.length_cons, List.length_nil, List.replicate_succ, List.replicate_zero, Nat.reduceAdd, Nat.reduceSub]
    have bad : ∀ (Ix : zz_I) (f p : Int32), P0 = .inl (f, p) → (∀ c, c ≠ 259 → c ≠ 267 → Ix c = I c) → Ix 259 = upd (I 259) 7 0 → Q (some (.int (-1))) M (zz_ui (zz_ui Ix 259 8 f) 259 9 p) J := by
      intro Ix f p hp g1 g2
      refine h1 j f p hj rfl hp _ (fun c c1 c2 => ?_) (fun i i1 i2 i3 => ?_) ?_ ?_ ?_
      · rw [zz_ui_ne _ _ _ c1, zz_ui_ne _ _ _ c1]; exact g1 c c1 c2
      · rw [zz_ui_at, pk_un i3, zz_ui_at, pk_un i2, g2, pk_un i1]
      · rw [zz_ui_at, pk_un (by decide), zz_ui_at, pk_un (by decide), g2, pk_us]
      · rw [zz_ui_at, pk_un (by decide), zz_ui_at, pk_us]
      · rw [zz_ui_at, pk_us]
    have loop : ∀ (r k : Nat) (Ix : zz_I) (set : Int32) (rd : List Int32) (z6 z7 : Option Value), k + r = n → rd.length ≤ 23 → (∀ c, c ≠ 259 → c ≠ 267 → Ix c = I c) → Ix 259 = upd (I 259) 7 0 → (∀ i, i < rd.length → Ix 267 i = rd.getD i 0) → P0 = prs by_ n r k set rd → zz_G mX10_told (d + 2) 0 28 [some (.ref 259), some (.int (nI j)), some (.int (nI n)), some (.int (nI rd.length)), some (.int set), some (.int (nI k)), z6, z7] [] M Ix J Q := by
      intro r
      induction r with
      | zero =>
        intro k Ix set rd z6 z7 hk hrd g1 g2 g3 hp
        have ek : k = n := by omega
        subst ek
        unfold prs at hp
        refine zz_iload rfl dX10_told_28 ?_
        refine zz_iload_n rfl dX10_told_30 ?_
        try dsimp only [zz_s1, zz_s2, zz_kill, zz_ent, zz_fl, List.set_cons_zero, List.set_cons_succ, List.getElem?_cons_zero, List.getElem?_cons_succ, Option.toList_some, Option.toList_none, List.cons_append, List.nil_append, List.append_nil, List.length_cons, List.length_nil, List.replicate_succ, List.replicate_zero, Nat.reduceAdd, Nat.reduceSub]
        refine zz_icmp_ge (tgt := 171) dX10_told_31 (by decide) (fun h4 => ?_) (fun h4 => ?_)
        · refine zz_iload rfl dX10_told_171 ?_
          try dsimp only [zz_s1, zz_s2, zz_kill, zz_ent, zz_fl, List.set_cons_zero, List.set_cons_succ, List.getElem?_cons_zero, List.getElem?_cons_succ, Option.toList_some, Option.toList_none, List.cons_append, List.nil_append, List.append_nil, List.length_cons, List.length_nil, List.replicate_succ, List.replicate_zero, Nat.reduceAdd, Nat.reduceSub]
          refine zz_if_ne (tgt := 183) dX10_told_173 (by decide) (fun h5 => ?_) (fun h5 => ?_)
          · rw [if_neg h5] at hp
            have hL := prs_len by_ k k 0 0 [] _ (by simp) (hP.trans hp)
            refine zz_aload_n rfl dX10_told_183 ?_
            refine zz_getr dX10_told_184 fX10_36 (fun _ _ _ _ => rfl) (os_259 hO) (or_259_10 hO) ?_
            refine zz_iload_n rfl dX10_told_187 ?_
            refine zz_iload rfl dX10_told_188 ?_
            refine zz_iast dX10_told_190 (os_267 hO) (vp_in_nI (by omega) (by decide)) ?_
            refine zz_iinc dX10_told_191 rfl (congrArg (HAdd.hAdd _) (show Int32.ofInt 1 = 1 by decide)) (by decide) ?_
            refine zz_aload_n rfl dX10_told_194 ?_
            refine zz_iconst (v := 0) (by decide) dX10_told_195 ?_
            refine zz_iconst (v := (-1)) (by decide) dX10_told_196 ?_
            try dsimp only [zz_s1, zz_s2, zz_kill, zz_ent, zz_fl, List.set_cons_zero, List.set_cons_succ, List.getElem?_cons_zero, List.getElem?_cons_succ, Option.toList_some, Option.toList_none, List.cons_append, List.nil_append, List.append_nil, List.length_cons, List.length_nil, List.replicate_succ, List.replicate_zero, Nat.reduceAdd, Nat.reduceSub]
            rw [nI_clamp (by omega), nI_1]
            refine zz_cV2 dX10_told_197 lX10_121 rfl (os_259 hO) rfl rfl (Nat.le_of_ble_eq_true rfl) (Nat.le_of_ble_eq_true rfl) ?_
            refine sp_wrong (d + 1) hO ?_
            try dsimp only [zz_s1, zz_s2, zz_kill, zz_ent, zz_fl, List.set_cons_zero, List.set_cons_succ, List.getElem?_cons_zero, List.getElem?_cons_succ, Option.toList_some, Option.toList_none, List.cons_append, List.nil_append, List.append_nil, List.length_cons, List.length_nil, List.replicate_succ, List.replicate_zero, Nat.reduceAdd, Nat.reduceSub]
            refine zz_istore dX10_told_200 (by decide) ?_
            refine zz_aload_n rfl dX10_told_202 ?_
            refine zz_iload_n rfl dX10_told_203 ?_
            refine zz_iload_n rfl dX10_told_204 ?_
            refine zz_iconst (v := 1) (by decide) dX10_told_205 ?_
            try dsimp only [zz_s1, zz_s2, zz_kill, zz_ent, zz_fl, List.set_cons_zero, List.set_cons_succ, List.getElem?_cons_zero, List.getElem?_cons_succ, Option.toList_some, Option.toList_none, List.cons_append, List.nil_append, List.append_nil, List.length_cons, List.length_nil, List.replicate_succ, List.replicate_zero, Nat.reduceAdd, Nat.reduceSub]
            refine zz_cV3 dX10_told_206 lX10_101 rfl (os_259 hO) rfl rfl (Nat.le_of_ble_eq_true rfl) (Nat.le_of_ble_eq_true rfl) ?_
            refine sp_X10_anew d hO hj (fun I1 k1 k2 => ?_)
            try dsimp only [zz_s1, zz_s2, zz_kill, zz_ent, zz_fl, List.set_cons_zero, List.set_cons_succ, List.getElem?_cons_zero, List.getElem?_cons_succ, Option.toList_some, Option.toList_none, List.cons_append, List.nil_append, List.append_nil, List.length_cons, List.length_nil, List.replicate_succ, List.replicate_zero, Nat.reduceAdd, Nat.reduceSub]
            generalize hLd : rd ++ [set] = L at hp hL
            have hLl : L.length = rd.length + 1 := by rw [← hLd]; simp
            rw [← hLl] at k2 ⊢
            have eb : ∀ c, (c < 260 ∨ 265 < c) → I1 c = zz_ui (zz_ui (zz_ui Ix 267 rd.length set) 259 8 0) 259 9 (-1) c := fun c hc => k1.1 c hc
            have e265 : I1 267 = upd (Ix 267) rd.length set := by
              rw [eb 267 (by decide), zz_ui_ne _ _ _ (by decide), zz_ui_ne _ _ _ (by decide), zz_ui_at]
            have e257 : I1 259 = upd (upd (upd (I 259) 7 0) 8 0) 9 (-1) := by
              rw [eb 259 (by decide), zz_ui_at, zz_ui_at, zz_ui_ne _ _ _ (by decide), g2]
            have erd : ∀ i, i < L.length → I1 267 i = L.getD i 0 := by
              intro i hi
              rw [e265, ← hLd, getD_app (by omega)]
              by_cases e : i = rd.length
              · subst e; simp [upd]
              · rw [pk_un e, if_neg e]; exact g3 i (by omega)
            have eoth : ∀ c, (c < 259 ∨ 265 < c) → c ≠ 267 → I1 c = I c := by
              intro c c1 c2
              rw [eb c (by omega), zz_ui_ne _ _ _ (by omega), zz_ui_ne _ _ _ (by omega), zz_ui_ne _ _ _ c2]
              exact g1 c (by omega) c2
            have e263 : zz_ui (zz_ui (zz_ui Ix 267 rd.length set) 259 8 0) 259 9 (-1) 265 j = I 265 j := by
              rw [zz_ui_ne _ _ _ (by decide), zz_ui_ne _ _ _ (by decide), zz_ui_ne _ _ _ (by decide), g1 _ (by decide) (by decide)]
            rw [e263] at k2
            have efo : FO j I I1 := FO.tr (FO.of (fun c c1 c2 => by rw [zz_ui_ne _ _ _ (by omega), zz_ui_ne _ _ _ (by omega), zz_ui_ne _ _ _ (by omega), g1 _ (by omega) (by omega)])) k1.2
            refine zz_iconst (v := 0) (by decide) dX10_told_209 ?_
            refine zz_istore dX10_told_210 (by decide) ?_
            try dsimp only [zz_s1, zz_s2, zz_kill, zz_ent, zz_fl, List.set_cons_zero, List.set_cons_succ, List.getElem?_cons_zero, List.getElem?_cons_succ, Option.toList_some, Option.toList_none, List.cons_append, List.nil_append, List.append_nil, List.length_cons, List.length_nil, List.replicate_succ, List.replicate_zero, Nat.reduceAdd, Nat.reduceSub]
            have outer : ∀ (r a : Nat) (Iy : zz_I) (z : Option Value), a + r = L.length → (∀ c, c ≠ 262 → c ≠ 263 → Iy c = I1 c) → FO j I Iy → ML Iy j L.length 1 (I 265 j + 1) (se (fun i => L.getD i 0) a 0) (fun x => if x < a then L.getD x 0 else 0) (fun _ _ => 0) → zz_G mX10_told (d + 2) 0 212 [some (.ref 259), some (.int (nI j)), some (.int (nI k)), some (.int (nI L.length)), some (.int set), some (.int (-1)), some (.int (nI a)), z] [] M Iy J Q := by
              intro r
              induction r with
              | zero =>
                intro a Iy z ha f1 f2 f3
                have ea : a = L.length := by omega
                subst ea
                refine zz_iload rfl dX10_told_212 ?_
                refine zz_iload_n rfl dX10_told_214 ?_
                try dsimp only [zz_s1, zz_s2, zz_kill, zz_ent, zz_fl, List.set_cons_zero, List.set_cons_succ, List.getElem?_cons_zero, List.getElem?_cons_succ, Option.toList_some, Option.toList_none, List.cons_append, List.nil_append, List.append_nil, List.length_cons, List.length_nil, List.replicate_succ, List.replicate_zero, Nat.reduceAdd, Nat.reduceSub]
                refine zz_icmp_ge (tgt := 286) dX10_told_215 (by decide) (fun h6 => ?_) (fun h6 => ?_)
                · refine zz_iload_n rfl dX10_told_286 ?_
                  refine zz_ireturn dX10_told_287 rfl (by first | rfl | decide | assumption) ?_
                  refine h2 j L hj rfl hp Iy (fun c c1 c2 => ?_) (fun i i1 i2 i3 => ?_) ?_ ?_ ?_ f2 f3
                  · rw [f1 c (by omega) (by omega)]; exact eoth c c1 c2
                  · rw [f1 259 (by decide) (by decide), e257, pk_un i3, pk_un i2, pk_un i1]
                  · rw [f1 259 (by decide) (by decide), e257, pk_un (by decide), pk_un (by decide), pk_us]
                  · rw [f1 259 (by decide) (by decide), e257, pk_un (by decide), pk_us]
                  · rw [f1 259 (by decide) (by decide), e257, pk_us]
                · exact absurd (nI_le (Nat.le_refl _) (by omega)) h6
              | succ r ih =>
                intro a Iy z ha f1 f2 f3
                have y265 : Iy 267 = I1 267 := f1 267 (by decide) (by decide)
                have ea : (24 : Int32) * nI j + nI a = nI (24 * j + a) := by rw [show (24 : Int32) = nI 24 from rfl, pk_mul, nI_add]
                refine zz_iload rfl dX10_told_212 ?_
                refine zz_iload_n rfl dX10_told_214 ?_
                try dsimp only [zz_s1, zz_s2, zz_kill, zz_ent, zz_fl, List.set_cons_zero, List.set_cons_succ, List.getElem?_cons_zero, List.getElem?_cons_succ, Option.toList_some, Option.toList_none, List.cons_append, List.nil_append, List.append_nil, List.length_cons, List.length_nil, List.replicate_succ, List.replicate_zero, Nat.reduceAdd, Nat.reduceSub]
                refine zz_icmp_ge (tgt := 286) dX10_told_215 (by decide) (fun h6 => ?_) (fun h6 => ?_)
                · exact absurd h6 (nI_ge (by omega) (by omega))
                · skip
                  refine zz_aload_n rfl dX10_told_218 ?_
                  refine zz_getr dX10_told_219 fX10_19 (fun _ _ _ _ => rfl) (os_259 hO) (or_259_3 hO) ?_
                  refine zz_bipush (v := 24) (by decide) dX10_told_222 ?_
                  refine zz_iload_n rfl dX10_told_224 ?_
                  refine zz_imul dX10_told_225 ?_
                  refine zz_iload rfl dX10_told_226 ?_
                  refine zz_iadd dX10_told_228 ?_
                  refine zz_aload_n rfl dX10_told_229 ?_
                  refine zz_getr dX10_told_230 fX10_36 (fun _ _ _ _ => rfl) (os_259 hO) (or_259_10 hO) ?_
                  refine zz_iload rfl dX10_told_233 ?_
                  refine zz_iald dX10_told_235 (os_267 hO) (vp_in_nI (by omega) (by decide)) ?_
                  refine zz_iast dX10_told_236 (os_263 hO) (by rw [ea]; exact vp_in_nI (by omega) (by decide)) ?_
                  refine zz_iconst (v := 0) (by decide) dX10_told_237 ?_
                  refine zz_istore dX10_told_238 (by decide) ?_
                  try dsimp only [zz_s1, zz_s2, zz_kill, zz_ent, zz_fl, List.set_cons_zero, List.set_cons_succ, List.getElem?_cons_zero, List.getElem?_cons_succ, Option.toList_some, Option.toList_none, List.cons_append, List.nil_append, List.append_nil, List.length_cons, List.length_nil, List.replicate_succ, List.replicate_zero, Nat.reduceAdd, Nat.reduceSub]
                  rw [ea, nI_clamp (show 24 * j + a < 2 ^ 31 by omega), nI_clamp (show a < 2 ^ 31 by omega), y265, erd a (by omega)]
                  have inn : ∀ (q b : Nat) (Iz : zz_I), b + q = a → (∀ c, c ≠ 262 → c ≠ 263 → Iz c = I1 c) → FO j I Iz → ML Iz j L.length 1 (I 265 j + 1) (se (fun i => L.getD i 0) a b) (fun x => if x < a + 1 then L.getD x 0 else 0) (fun _ _ => 0) → zz_G mX10_told (d + 2) 0 240 [some (.ref 259), some (.int (nI j)), some (.int (nI k)), some (.int (nI L.length)), some (.int set), some (.int (-1)), some (.int (nI a)), some (.int (nI b))] [] M Iz J Q := by
                    intro q
                    induction q with
                    | zero =>
                      intro b Iz hb f4 f5 f6
                      have eb : b = a := by omega
                      subst eb
                      refine zz_iload rfl dX10_told_240 ?_
                      refine zz_iload rfl dX10_told_242 ?_
                      try dsimp only [zz_s1, zz_s2, zz_kill, zz_ent, zz_fl, List.set_cons_zero, List.set_cons_succ, List.getElem?_cons_zero, List.getElem?_cons_succ, Option.toList_some, Option.toList_none, List.cons_append, List.nil_append, List.append_nil, List.length_cons, List.length_nil, List.replicate_succ, List.replicate_zero, Nat.reduceAdd, Nat.reduceSub]
                      refine zz_icmp_ge (tgt := 280) dX10_told_244 (by decide) (fun h7 => ?_) (fun h7 => ?_)
                      · refine zz_iinc dX10_told_280 rfl (congrArg (HAdd.hAdd _) (show Int32.ofInt 1 = 1 by decide)) (by decide) ?_
                        refine zz_goto (tgt := 212) dX10_told_283 (by decide) ?_
                        try dsimp only [zz_s1, zz_s2, zz_kill, zz_ent, zz_fl, List.set_cons_zero, List.set_cons_succ, List.getElem?_cons_zero, List.getElem?_cons_succ, Option.toList_some, Option.toList_none, List.cons_append, List.nil_append, List.append_nil, List.length_cons, List.length_nil, List.replicate_succ, List.replicate_zero, Nat.reduceAdd, Nat.reduceSub]
                        rw [nI_1]
                        rw [se_next] at f6
                        exact ih (b + 1) Iz _ (by omega) f4 f5 f6
                      · exact absurd (nI_le (Nat.le_refl b) (by omega)) h7
                    | succ q ih2 =>
                      intro b Iz hb f4 f5 f6
                      have z265 : Iz 267 = I1 267 := f4 267 (by decide) (by decide)
                      refine zz_iload rfl dX10_told_240 ?_
                      refine zz_iload rfl dX10_told_242 ?_
                      try dsimp only [zz_s1, zz_s2, zz_kill, zz_ent, zz_fl, List.set_cons_zero, List.set_cons_succ, List.getElem?_cons_zero, List.getElem?_cons_succ, Option.toList_some, Option.toList_none, List.cons_append, List.nil_append, List.append_nil, List.length_cons, List.length_nil, List.replicate_succ, List.replicate_zero, Nat.reduceAdd, Nat.reduceSub]
                      refine zz_icmp_ge (tgt := 280) dX10_told_244 (by decide) (fun h7 => ?_) (fun h7 => ?_)
                      · exact absurd h7 (nI_ge (by omega) (by omega))
                      · skip
                        refine zz_aload_n rfl dX10_told_247 ?_
                        refine zz_getr dX10_told_248 fX10_36 (fun _ _ _ _ => rfl) (os_259 hO) (or_259_10 hO) ?_
                        refine zz_iload rfl dX10_told_251 ?_
                        refine zz_iald dX10_told_253 (os_267 hO) (vp_in_nI (by omega) (by decide)) ?_
                        refine zz_aload_n rfl dX10_told_254 ?_
                        refine zz_getr dX10_told_255 fX10_36 (fun _ _ _ _ => rfl) (os_259 hO) (or_259_10 hO) ?_
                        refine zz_iload rfl dX10_told_258 ?_
                        refine zz_iald dX10_told_260 (os_267 hO) (vp_in_nI (by omega) (by decide)) ?_
                        refine zz_iand dX10_told_261 ?_
                        try dsimp only [zz_s1, zz_s2, zz_kill, zz_ent, zz_fl, List.set_cons_zero, List.set_cons_succ, List.getElem?_cons_zero, List.getElem?_cons_succ, Option.toList_some, Option.toList_none, List.cons_append, List.nil_append, List.append_nil, List.length_cons, List.length_nil, List.replicate_succ, List.replicate_zero, Nat.reduceAdd, Nat.reduceSub]
                        rw [nI_clamp (show a < 2 ^ 31 by omega), nI_clamp (show b < 2 ^ 31 by omega), z265, erd a (by omega), erd b (by omega)]
                        refine zz_if_eq (tgt := 274) dX10_told_262 (by decide) (fun h8 => ?_) (fun h8 => ?_)
                        · refine zz_iinc dX10_told_274 rfl (congrArg (HAdd.hAdd _) (show Int32.ofInt 1 = 1 by decide)) (by decide) ?_
                          refine zz_goto (tgt := 240) dX10_told_277 (by decide) ?_
                          try dsimp only [zz_s1, zz_s2, zz_kill, zz_ent, zz_fl, List.set_cons_zero, List.set_cons_succ, List.getElem?_cons_zero, List.getElem?_cons_succ, Option.toList_some, Option.toList_none, List.cons_append, List.nil_append, List.append_nil, List.length_cons, List.length_nil, List.replicate_succ, List.replicate_zero, Nat.reduceAdd, Nat.reduceSub]
                          rw [nI_1]
                          rw [se_no (by omega) h8] at f6
                          exact ih2 (b + 1) Iz (by omega) f4 f5 f6
                        · skip
                          refine zz_aload_n rfl dX10_told_265 ?_
                          refine zz_iload_n rfl dX10_told_266 ?_
                          refine zz_iload rfl dX10_told_267 ?_
                          refine zz_iload rfl dX10_told_269 ?_
                          try dsimp only [zz_s1, zz_s2, zz_kill, zz_ent, zz_fl, List.set_cons_zero, List.set_cons_succ, List.getElem?_cons_zero, List.getElem?_cons_succ, Option.toList_some, Option.toList_none, List.cons_append, List.nil_append, List.append_nil, List.length_cons, List.length_nil, List.replicate_succ, List.replicate_zero, Nat.reduceAdd, Nat.reduceSub]
                          refine zz_cV3 dX10_told_271 lX10_115 rfl (os_259 hO) rfl rfl (Nat.le_of_ble_eq_true rfl) (Nat.le_of_ble_eq_true rfl) ?_
                          refine sp_X10_join (d + 1) hO hj (show a < 24 by omega) (show b < 24 by omega) f6 (fun I2 m1 m2 m3 => ?_)
                          try dsimp only [zz_s1, zz_s2, zz_kill, zz_ent, zz_fl, List.set_cons_zero, List.set_cons_succ, List.getElem?_cons_zero, List.getElem?_cons_succ, Option.toList_some, Option.toList_none, List.cons_append, List.nil_append, List.append_nil, List.length_cons, List.length_nil, List.replicate_succ, List.replicate_zero, Nat.reduceAdd, Nat.reduceSub]
                          refine zz_iinc dX10_told_274 rfl (congrArg (HAdd.hAdd _) (show Int32.ofInt 1 = 1 by decide)) (by decide) ?_
                          refine zz_goto (tgt := 240) dX10_told_277 (by decide) ?_
                          try dsimp only [zz_s1, zz_s2, zz_kill, zz_ent, zz_fl, List.set_cons_zero, List.set_cons_succ, List.getElem?_cons_zero, List.getElem?_cons_succ, Option.toList_some, Option.toList_none, List.cons_append, List.nil_append, List.append_nil, List.length_cons, List.length_nil, List.replicate_succ, List.replicate_zero, Nat.reduceAdd, Nat.reduceSub]
                          rw [nI_1]
                          rw [se_yes (by omega) h8] at m3
                          exact ih2 (b + 1) I2 (by omega) (fun c c1 c2 => (m1 c c1).trans (f4 c c1 c2)) (FO.tr f5 (FM_260 m1 m2).2) m3
                  refine inn a 0 _ (by omega) (fun c c1 c2 => by rw [zz_ui_ne _ _ _ c2]; exact f1 c c1 c2) (FO.tr f2 ?_) ⟨?_, ?_, ?_, fun x hx2 y hy2 => ?_, fun x hx2 => ?_, fun x hx2 i hi => ?_⟩
                  · intro l' q1 q2
                    refine ⟨?_, ?_, ?_, fun x _ => ?_, fun x _ => ?_, fun x _ => ?_⟩
                    · rw [zz_ui_ne _ _ _ (by decide)]
                    · rw [zz_ui_ne _ _ _ (by decide)]
                    · rw [zz_ui_ne _ _ _ (by decide)]
                    · rw [zz_ui_ne _ _ _ (by decide)]
                    · rw [zz_ui_at, pk_un (by omega)]
                    · rw [zz_ui_ne _ _ _ (by decide)]
                  · rw [zz_ui_ne _ _ _ (by decide)]; exact f3.1
                  · rw [zz_ui_ne _ _ _ (by decide)]; exact f3.2.1
                  · rw [zz_ui_ne _ _ _ (by decide)]; exact f3.2.2.1
                  · rw [zz_ui_ne _ _ _ (by decide)]; exact f3.2.2.2.1 x hx2 y hy2
                  · rw [zz_ui_at]
                    by_cases e : x = a
                    · subst e; simp [upd]
                    · rw [pk_un (by omega), f3.2.2.2.2.1 x hx2]
                      show (if x < a then L.getD x 0 else 0) = if x < a + 1 then L.getD x 0 else 0
                      by_cases e2 : x < a
                      · rw [if_pos e2, if_pos (by omega)]
                      · rw [if_neg e2, if_neg (by omega)]
                  · rw [zz_ui_ne _ _ _ (by decide)]; exact f3.2.2.2.2.2 x hx2 i hi
            refine outer L.length 0 I1 _ (by omega) (fun _ _ _ => rfl) efo ?_
            rw [se_0]
            simpa using k2
          · skip
            rw [if_pos h5] at hp
            refine zz_aload_n rfl dX10_told_176 ?_
            refine zz_iconst (v := 2) (by decide) dX10_told_177 ?_
            refine zz_iload_n rfl dX10_told_178 ?_
            try dsimp only [zz_s1, zz_s2, zz_kill, zz_ent, zz_fl, List.set_cons_zero, List.set_cons_succ, List.getElem?_cons_zero, List.getElem?_cons_succ, Option.toList_some, Option.toList_none, List.cons_append, List.nil_append, List.append_nil, List.length_cons, List.length_nil, List.replicate_succ, List.replicate_zero, Nat.reduceAdd, Nat.reduceSub]
            refine zz_cV2 dX10_told_179 lX10_121 rfl (os_259 hO) rfl rfl (Nat.le_of_ble_eq_true rfl) (Nat.le_of_ble_eq_true rfl) ?_
            refine sp_wrong (d + 1) hO ?_
            try dsimp only [zz_s1, zz_s2, zz_kill, zz_ent, zz_fl, List.set_cons_zero, List.set_cons_succ, List.getElem?_cons_zero, List.getElem?_cons_succ, Option.toList_some, Option.toList_none, List.cons_append, List.nil_append, List.append_nil, List.length_cons, List.length_nil, List.replicate_succ, List.replicate_zero, Nat.reduceAdd, Nat.reduceSub]
            refine zz_ireturn dX10_told_182 rfl (by first | rfl | decide | assumption) ?_
            exact bad Ix 2 (nI k) hp g1 g2
        · exact absurd (nI_le (Nat.le_refl k) (by omega)) h4
      | succ r ih =>
        intro k Ix set rd z6 z7 hk hrd g1 g2 g3 hp
        have hbk : by_ k < 256 ∧ Ix 266 k = jv_b (nI (by_ k)) := by rw [g1 266 (by decide) (by decide)]; exact hby k (by omega)
        unfold prs at hp
        refine zz_iload rfl dX10_told_28 ?_
        refine zz_iload_n rfl dX10_told_30 ?_
        try dsimp only [zz_s1, zz_s2, zz_kill, zz_ent, zz_fl, List.set_cons_zero, List.set_cons_succ, List.getElem?_cons_zero, List.getElem?_cons_succ, Option.toList_some, Option.toList_none, List.cons_append, List.nil_append, List.append_nil, List.length_cons, List.length_nil, List.replicate_succ, List.replicate_zero, Nat.reduceAdd, Nat.reduceSub]
        refine zz_icmp_ge (tgt := 171) dX10_told_31 (by decide) (fun h4 => ?_) (fun h4 => ?_)
        · exact absurd h4 (nI_ge (by omega) (by omega))
        · skip
          refine zz_aload_n rfl dX10_told_34 ?_
          refine zz_getr dX10_told_35 fX10_28 (fun _ _ _ _ => rfl) (os_259 hO) (or_259_6 hO) ?_
          refine zz_iload rfl dX10_told_38 ?_
          refine zz_bald dX10_told_40 (os_266 hO) (vp_in_nI (by omega) (by decide)) ?_
          refine zz_istore dX10_told_41 (by decide) ?_
          refine zz_iload rfl dX10_told_43 ?_
          refine zz_bipush (v := 32) (by decide) dX10_told_45 ?_
          try dsimp only [zz_s1, zz_s2, zz_kill, zz_ent, zz_fl, List.set_cons_zero, List.set_cons_succ, List.getElem?_cons_zero, List.getElem?_cons_succ, Option.toList_some, Option.toList_none, List.cons_append, List.nil_append, List.append_nil, List.length_cons, List.length_nil, List.replicate_succ, List.replicate_zero, Nat.reduceAdd, Nat.reduceSub]
          rw [nI_clamp (by omega), hbk.2]
          refine zz_icmp_eq (tgt := 165) dX10_told_47 (by decide) (fun h5 => ?_) (fun h5 => ?_)
          · refine zz_iinc dX10_told_165 rfl (congrArg (HAdd.hAdd _) (show Int32.ofInt 1 = 1 by decide)) (by decide) ?_
            refine zz_goto (tgt := 28) dX10_told_168 (by decide) ?_
            try dsimp only [zz_s1, zz_s2, zz_kill, zz_ent, zz_fl, List.set_cons_zero, List.set_cons_succ, List.getElem?_cons_zero, List.getElem?_cons_succ, Option.toList_some, Option.toList_none, List.cons_append, List.nil_append, List.append_nil, List.length_cons, List.length_nil, List.replicate_succ, List.replicate_zero, Nat.reduceAdd, Nat.reduceSub]
            rw [nI_1]
            rw [if_pos (Or.inl ((mb_32 _ hbk.1).mp h5))] at hp
            exact ih (k + 1) Ix set rd _ _ (by omega) hrd g1 g2 g3 hp
          · skip
            have n32 : ¬ by_ k = 32 := fun q => h5 ((mb_32 _ hbk.1).mpr q)
            refine zz_iload rfl dX10_told_50 ?_
            refine zz_bipush (v := 10) (by decide) dX10_told_52 ?_
            try dsimp only [zz_s1, zz_s2, zz_kill, zz_ent, zz_fl, List.set_cons_zero, List.set_cons_succ, List.getElem?_cons_zero, List.getElem?_cons_succ, Option.toList_some, Option.toList_none, List.cons_append, List.nil_append, List.append_nil, List.length_cons, List.length_nil, List.replicate_succ, List.replicate_zero, Nat.reduceAdd, Nat.reduceSub]
            refine zz_icmp_ne (tgt := 60) dX10_told_54 (by decide) (fun h6 => ?_) (fun h6 => ?_)
            · have n10 : ¬ by_ k = 10 := fun q => h6 ((mb_10 _ hbk.1).mpr q)
              rw [if_neg (fun q => q.elim n32 n10)] at hp
              refine zz_iload rfl dX10_told_60 ?_
              refine zz_bipush (v := 59) (by decide) dX10_told_62 ?_
              try dsimp only [zz_s1, zz_s2, zz_kill, zz_ent, zz_fl, List.set_cons_zero, List.set_cons_succ, List.getElem?_cons_zero, List.getElem?_cons_succ, Option.toList_some, Option.toList_none, List.cons_append, List.nil_append, List.append_nil, List.length_cons, List.length_nil, List.replicate_succ, List.replicate_zero, Nat.reduceAdd, Nat.reduceSub]
              refine zz_icmp_ne (tgt := 111) dX10_told_64 (by decide) (fun h7 => ?_) (fun h7 => ?_)
              · have n59 : ¬ by_ k = 59 := fun q => h7 ((mb_59 _ hbk.1).mpr q)
                rw [if_neg n59] at hp
                have strange : ¬ (97 ≤ by_ k ∧ by_ k ≤ 120) → zz_G mX10_told (d + 2) 0 125 [some (.ref 259), some (.int (nI j)), some (.int (nI n)), some (.int (nI rd.length)), some (.int set), some (.int (nI k)), some (.int (jv_b (nI (by_ k)))), z7] [] M Ix J Q := by
                  intro q
                  rw [if_neg q] at hp
                  refine zz_aload_n rfl dX10_told_125 ?_
                  refine zz_iconst (v := 1) (by decide) dX10_told_126 ?_
                  refine zz_iload rfl dX10_told_127 ?_
                  try dsimp only [zz_s1, zz_s2, zz_kill, zz_ent, zz_fl, List.set_cons_zero, List.set_cons_succ, List.getElem?_cons_zero, List.getElem?_cons_succ, Option.toList_some, Option.toList_none, List.cons_append, List.nil_append, List.append_nil, List.length_cons, List.length_nil, List.replicate_succ, List.replicate_zero, Nat.reduceAdd, Nat.reduceSub]
                  refine zz_cV2 dX10_told_129 lX10_121 rfl (os_259 hO) rfl rfl (Nat.le_of_ble_eq_true rfl) (Nat.le_of_ble_eq_true rfl) ?_
                  refine sp_wrong (d + 1) hO ?_
                  try dsimp only [zz_s1, zz_s2, zz_kill, zz_ent, zz_fl, List.set_cons_zero, List.set_cons_succ, List.getElem?_cons_zero, List.getElem?_cons_succ, Option.toList_some, Option.toList_none, List.cons_append, List.nil_append, List.append_nil, List.length_cons, List.length_nil, List.replicate_succ, List.replicate_zero, Nat.reduceAdd, Nat.reduceSub]
                  refine zz_ireturn dX10_told_132 rfl (by first | rfl | decide | assumption) ?_
                  exact bad Ix 1 (nI k) hp g1 g2
                refine zz_iload rfl dX10_told_111 ?_
                refine zz_bipush (v := 97) (by decide) dX10_told_113 ?_
                try dsimp only [zz_s1, zz_s2, zz_kill, zz_ent, zz_fl, List.set_cons_zero, List.set_cons_succ, List.getElem?_cons_zero, List.getElem?_cons_succ, Option.toList_some, Option.toList_none, List.cons_append, List.nil_append, List.append_nil, List.length_cons, List.length_nil, List.replicate_succ, List.replicate_zero, Nat.reduceAdd, Nat.reduceSub]
                refine zz_icmp_lt (tgt := 125) dX10_told_115 (by decide) (fun h8 => ?_) (fun h8 => ?_)
                · exact strange (fun q => ((mb_ax _ hbk.1).mpr q).1 h8)
                · skip
                  refine zz_iload rfl dX10_told_118 ?_
                  refine zz_bipush (v := 120) (by decide) dX10_told_120 ?_
                  try dsimp only [zz_s1, zz_s2, zz_kill, zz_ent, zz_fl, List.set_cons_zero, List.set_cons_succ, List.getElem?_cons_zero, List.getElem?_cons_succ, Option.toList_some, Option.toList_none, List.cons_append, List.nil_append, List.append_nil, List.length_cons, List.length_nil, List.replicate_succ, List.replicate_zero, Nat.reduceAdd, Nat.reduceSub]
                  refine zz_icmp_le (tgt := 133) dX10_told_122 (by decide) (fun h9 => ?_) (fun h9 => ?_)
                  · have hr2 := (mb_ax _ hbk.1).mp ⟨h8, h9⟩
                    rw [if_pos hr2] at hp
                    refine zz_iconst (v := 1) (by decide) dX10_told_133 ?_
                    refine zz_iload rfl dX10_told_134 ?_
                    refine zz_bipush (v := 97) (by decide) dX10_told_136 ?_
                    refine zz_isub dX10_told_138 ?_
                    refine zz_ishl dX10_told_139 ?_
                    refine zz_istore dX10_told_140 (by decide) ?_
                    refine zz_iload rfl dX10_told_142 ?_
                    refine zz_iload rfl dX10_told_144 ?_
                    refine zz_iand dX10_told_146 ?_
                    try dsimp only [zz_s1, zz_s2, zz_kill, zz_ent, zz_fl, List.set_cons_zero, List.set_cons_succ, List.getElem?_cons_zero, List.getElem?_cons_succ, Option.toList_some, Option.toList_none, List.cons_append, List.nil_append, List.append_nil, List.length_cons, List.length_nil, List.replicate_succ, List.replicate_zero, Nat.reduceAdd, Nat.reduceSub]
                    rw [mb_sub _ (by omega) hr2.1, show (1 : Int32) <<< (nI (by_ k - 97) &&& 31) = sbit (by_ k) from rfl]
                    refine zz_if_eq (tgt := 158) dX10_told_147 (by decide) (fun h10 => ?_) (fun h10 => ?_)
                    · refine zz_iload rfl dX10_told_158 ?_
                      refine zz_iload rfl dX10_told_160 ?_
                      refine zz_ior dX10_told_162 ?_
                      refine zz_istore dX10_told_163 (by decide) ?_
                      refine zz_iinc dX10_told_165 rfl (congrArg (HAdd.hAdd _) (show Int32.ofInt 1 = 1 by decide)) (by decide) ?_
                      refine zz_goto (tgt := 28) dX10_told_168 (by decide) ?_
                      try dsimp only [zz_s1, zz_s2, zz_kill, zz_ent, zz_fl, List.set_cons_zero, List.set_cons_succ, List.getElem?_cons_zero, List.getElem?_cons_succ, Option.toList_some, Option.toList_none, List.cons_append, List.nil_append, List.append_nil, List.length_cons, List.length_nil, List.replicate_succ, List.replicate_zero, Nat.reduceAdd, Nat.reduceSub]
                      rw [nI_1]
                      rw [if_neg (fun q => q h10)] at hp
                      exact ih (k + 1) Ix _ rd _ _ (by omega) hrd g1 g2 g3 hp
                    · skip
                      rw [if_pos h10] at hp
                      refine zz_aload_n rfl dX10_told_150 ?_
                      refine zz_iconst (v := 4) (by decide) dX10_told_151 ?_
                      refine zz_iload rfl dX10_told_152 ?_
                      try dsimp only [zz_s1, zz_s2, zz_kill, zz_ent, zz_fl, List.set_cons_zero, List.set_cons_succ, List.getElem?_cons_zero, List.getElem?_cons_succ, Option.toList_some, Option.toList_none, List.cons_append, List.nil_append, List.append_nil, List.length_cons, List.length_nil, List.replicate_succ, List.replicate_zero, Nat.reduceAdd, Nat.reduceSub]
                      refine zz_cV2 dX10_told_154 lX10_121 rfl (os_259 hO) rfl rfl (Nat.le_of_ble_eq_true rfl) (Nat.le_of_ble_eq_true rfl) ?_
                      refine sp_wrong (d + 1) hO ?_
                      try dsimp only [zz_s1, zz_s2, zz_kill, zz_ent, zz_fl, List.set_cons_zero, List.set_cons_succ, List.getElem?_cons_zero, List.getElem?_cons_succ, Option.toList_some, Option.toList_none, List.cons_append, List.nil_append, List.append_nil, List.length_cons, List.length_nil, List.replicate_succ, List.replicate_zero, Nat.reduceAdd, Nat.reduceSub]
                      refine zz_ireturn dX10_told_157 rfl (by first | rfl | decide | assumption) ?_
                      exact bad Ix 4 (nI k) hp g1 g2
                  · exact strange (fun q => h9 ((mb_ax _ hbk.1).mpr q).2)
              · skip
                rw [if_pos ((mb_59 _ hbk.1).mp h7)] at hp
                refine zz_iload rfl dX10_told_67 ?_
                try dsimp only [zz_s1, zz_s2, zz_kill, zz_ent, zz_fl, List.set_cons_zero, List.set_cons_succ, List.getElem?_cons_zero, List.getElem?_cons_succ, Option.toList_some, Option.toList_none, List.cons_append, List.nil_append, List.append_nil, List.length_cons, List.length_nil, List.replicate_succ, List.replicate_zero, Nat.reduceAdd, Nat.reduceSub]
                refine zz_if_ne (tgt := 80) dX10_told_69 (by decide) (fun h8 => ?_) (fun h8 => ?_)
                · rw [if_neg h8] at hp
                  refine zz_iload_n rfl dX10_told_80 ?_
                  refine zz_bipush (v := 23) (by decide) dX10_told_81 ?_
                  try dsimp only [zz_s1, zz_s2, zz_kill, zz_ent, zz_fl, List.set_cons_zero, List.set_cons_succ, List.getElem?_cons_zero, List.getElem?_cons_succ, Option.toList_some, Option.toList_none, List.cons_append, List.nil_append, List.append_nil, List.length_cons, List.length_nil, List.replicate_succ, List.replicate_zero, Nat.reduceAdd, Nat.reduceSub]
                  refine zz_icmp_ne (tgt := 94) dX10_told_83 (by decide) (fun h9 => ?_) (fun h9 => ?_)
                  · have hne : ¬ rd.length = 23 := fun q => h9 (by rw [q]; rfl)
                    rw [if_neg hne] at hp
                    refine zz_aload_n rfl dX10_told_94 ?_
                    refine zz_getr dX10_told_95 fX10_36 (fun _ _ _ _ => rfl) (os_259 hO) (or_259_10 hO) ?_
                    refine zz_iload_n rfl dX10_told_98 ?_
                    refine zz_iload rfl dX10_told_99 ?_
                    refine zz_iast dX10_told_101 (os_267 hO) (vp_in_nI (by omega) (by decide)) ?_
                    refine zz_iinc dX10_told_102 rfl (congrArg (HAdd.hAdd _) (show Int32.ofInt 1 = 1 by decide)) (by decide) ?_
                    refine zz_iconst (v := 0) (by decide) dX10_told_105 ?_
                    refine zz_istore dX10_told_106 (by decide) ?_
                    refine zz_goto (tgt := 165) dX10_told_108 (by decide) ?_
                    refine zz_iinc dX10_told_165 rfl (congrArg (HAdd.hAdd _) (show Int32.ofInt 1 = 1 by decide)) (by decide) ?_
                    refine zz_goto (tgt := 28) dX10_told_168 (by decide) ?_
                    try dsimp only [zz_s1, zz_s2, zz_kill, zz_ent, zz_fl, List.set_cons_zero, List.set_cons_succ, List.getElem?_cons_zero, List.getElem?_cons_succ, Option.toList_some, Option.toList_none, List.cons_append, List.nil_append, List.append_nil, List.length_cons, List.length_nil, List.replicate_succ, List.replicate_zero, Nat.reduceAdd, Nat.reduceSub]
                    rw [nI_clamp (by omega), nI_1, nI_1]
                    have hlen : (rd ++ [set]).length = rd.length + 1 := by simp
                    rw [← hlen]
                    refine ih (k + 1) _ 0 (rd ++ [set]) _ _ (by omega) (by omega) (fun c c1 c2 => ?_) ?_ (fun i hi => ?_) hp
                    · rw [zz_ui_ne _ _ _ c2]; exact g1 c c1 c2
                    · rw [zz_ui_ne _ _ _ (by decide)]; exact g2
                    · rw [zz_ui_at, getD_app (by omega)]
                      by_cases e : i = rd.length
                      · subst e; simp [upd]
                      · rw [pk_un e, if_neg e]; exact g3 i (by omega)
                  · skip
                    have he : rd.length = 23 := (nI_eq (a := rd.length) (b := 23) (by omega) (by decide)).mp h9
                    rw [if_pos he] at hp
                    refine zz_aload_n rfl dX10_told_86 ?_
                    refine zz_iconst (v := 3) (by decide) dX10_told_87 ?_
                    refine zz_iload rfl dX10_told_88 ?_
                    try dsimp only [zz_s1, zz_s2, zz_kill, zz_ent, zz_fl, List.set_cons_zero, List.set_cons_succ, List.getElem?_cons_zero, List.getElem?_cons_succ, Option.toList_some, Option.toList_none, List.cons_append, List.nil_append, List.append_nil, List.length_cons, List.length_nil, List.replicate_succ, List.replicate_zero, Nat.reduceAdd, Nat.reduceSub]
                    refine zz_cV2 dX10_told_90 lX10_121 rfl (os_259 hO) rfl rfl (Nat.le_of_ble_eq_true rfl) (Nat.le_of_ble_eq_true rfl) ?_
                    refine sp_wrong (d + 1) hO ?_
                    try dsimp only [zz_s1, zz_s2, zz_kill, zz_ent, zz_fl, List.set_cons_zero, List.set_cons_succ, List.getElem?_cons_zero, List.getElem?_cons_succ, Option.toList_some, Option.toList_none, List.cons_append, List.nil_append, List.append_nil, List.length_cons, List.length_nil, List.replicate_succ, List.replicate_zero, Nat.reduceAdd, Nat.reduceSub]
                    refine zz_ireturn dX10_told_93 rfl (by first | rfl | decide | assumption) ?_
                    exact bad Ix 3 (nI k) hp g1 g2
                · skip
                  rw [if_pos h8] at hp
                  refine zz_aload_n rfl dX10_told_72 ?_
                  refine zz_iconst (v := 2) (by decide) dX10_told_73 ?_
                  refine zz_iload rfl dX10_told_74 ?_
                  try dsimp only [zz_s1, zz_s2, zz_kill, zz_ent, zz_fl, List.set_cons_zero, List.set_cons_succ, List.getElem?_cons_zero, List.getElem?_cons_succ, Option.toList_some, Option.toList_none, List.cons_append, List.nil_append, List.append_nil, List.length_cons, List.length_nil, List.replicate_succ, List.replicate_zero, Nat.reduceAdd, Nat.reduceSub]
                  refine zz_cV2 dX10_told_76 lX10_121 rfl (os_259 hO) rfl rfl (Nat.le_of_ble_eq_true rfl) (Nat.le_of_ble_eq_true rfl) ?_
                  refine sp_wrong (d + 1) hO ?_
                  try dsimp only [zz_s1, zz_s2, zz_kill, zz_ent, zz_fl, List.set_cons_zero, List.set_cons_succ, List.getElem?_cons_zero, List.getElem?_cons_succ, Option.toList_some, Option.toList_none, List.cons_append, List.nil_append, List.append_nil, List.length_cons, List.length_nil, List.replicate_succ, List.replicate_zero, Nat.reduceAdd, Nat.reduceSub]
                  refine zz_ireturn dX10_told_79 rfl (by first | rfl | decide | assumption) ?_
                  exact bad Ix 2 (nI k) hp g1 g2
            · skip
              refine zz_goto (tgt := 165) dX10_told_57 (by decide) ?_
              refine zz_iinc dX10_told_165 rfl (congrArg (HAdd.hAdd _) (show Int32.ofInt 1 = 1 by decide)) (by decide) ?_
              refine zz_goto (tgt := 28) dX10_told_168 (by decide) ?_
              try dsimp only [zz_s1, zz_s2, zz_kill, zz_ent, zz_fl, List.set_cons_zero, List.set_cons_succ, List.getElem?_cons_zero, List.getElem?_cons_succ, Option.toList_some, Option.toList_none, List.cons_append, List.nil_append, List.append_nil, List.length_cons, List.length_nil, List.replicate_succ, List.replicate_zero, Nat.reduceAdd, Nat.reduceSub]
              rw [nI_1]
              rw [if_pos (Or.inr ((mb_10 _ hbk.1).mp h6))] at hp
              exact ih (k + 1) Ix set rd _ _ (by omega) hrd g1 g2 g3 hp
    exact loop n 0 _ 0 [] _ _ (by omega) (by simp) (fun c c1 _ => zz_ui_ne _ _ _ c1) (zz_ui_at _ _ _ _) (fun i hi => absurd hi (Nat.not_lt_zero i)) hP.symm
  · skip
    refine zz_bipush (v := (-2)) (by decide) dX10_told_17 ?_
    refine zz_ireturn dX10_told_19 rfl (by first | rfl | decide | assumption) ?_
    exact h3 (hr.f h)
end PToldM

