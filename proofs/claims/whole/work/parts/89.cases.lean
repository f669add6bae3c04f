/-! ===== the law: a call on both sides, case by case ===== -/
section LawCases
variable {M : zz_M} {I : zz_I} {J : zz_J} {i k mT : Nat}
theorem lw_in {i k L : Nat} (h : i + 6 ≤ L) (hL : L ≤ 3072) (hk : k < 6) : vp_in (nI i + nI k) L := by
  rw [nI_add]
  exact vp_in_nI (by omega) (by omega)
theorem law_0 (hO : OK M) (hR : REL I) (hm : mT ≤ 400000) (hT : RT J mT) (hk : k ≤ 600) (hi : i + 6 ≤ (M.2 0).2.1) (hL : (M.2 0).2.1 ≤ 3072) (nx : ∀ (I2 : zz_I) (J2 : zz_J), REL I2 → RT J2 (mT + 600) → zz_G zz_yL 800 k 1043 [some (.ref 0), some (.ref 1), some (.ref 259), some (.int (nI i))] [] M I2 J2 zz_QL) : zz_G zz_yL 800 k 156 [some (.ref 0), some (.ref 1), some (.ref 259), some (.int (nI i))] [] M I J zz_QL := by
  refine zz_aload_n rfl dL_law_156 ?_
  refine zz_aload_n rfl dL_law_157 ?_
  refine zz_iload_n rfl dL_law_158 ?_
  refine zz_iconst (v := 1) (by decide) dL_law_159 ?_
  refine zz_iadd dL_law_160 ?_
  refine zz_iald0 dL_law_161 (lw_in (k := 1) hi hL (by decide)) ?_
  refine zz_aload_n rfl dL_law_162 ?_
  refine zz_iload_n rfl dL_law_163 ?_
  refine zz_iconst (v := 2) (by decide) dL_law_164 ?_
  refine zz_iadd dL_law_165 ?_
  refine zz_iald0 dL_law_166 (lw_in (k := 2) hi hL (by decide)) ?_
  refine zz_aload_n rfl dL_law_167 ?_
  refine zz_iload_n rfl dL_law_168 ?_
  refine zz_iconst (v := 3) (by decide) dL_law_169 ?_
  refine zz_iadd dL_law_170 ?_
  refine zz_iald0 dL_law_171 (lw_in (k := 3) hi hL (by decide)) ?_
  refine zz_aload_n rfl dL_law_172 ?_
  refine zz_iload_n rfl dL_law_173 ?_
  refine zz_iconst (v := 4) (by decide) dL_law_174 ?_
  refine zz_iadd dL_law_175 ?_
  refine zz_iald0 dL_law_176 (lw_in (k := 4) hi hL (by decide)) ?_
  refine zz_aload_n rfl dL_law_177 ?_
  refine zz_iload_n rfl dL_law_178 ?_
  refine zz_iconst (v := 5) (by decide) dL_law_179 ?_
  refine zz_iadd dL_law_180 ?_
  refine zz_iald0 dL_law_181 (lw_in (k := 5) hi hL (by decide)) ?_
  refine zz_cV5 dL_law_182 lL_13 rfl (os_1 hO) rfl rfl (Nat.le_of_ble_eq_true rfl) hk ?_
  refine two_feed 728 hO hR hm hT _ (fun r I1 J1 hB h0 => ?_)
  try dsimp only [zz_s1, zz_s2, zz_kill, zz_ent, zz_fl, List.set_cons_zero, List.set_cons_succ, List.getElem?_cons_zero, List.getElem?_cons_succ, Option.toList_some, Option.toList_none, List.cons_append, List.nil_append, List.append_nil, List.length_cons, List.length_nil, List.replicate_succ, List.replicate_zero, Nat.reduceAdd, Nat.reduceSub]
  refine zz_aload_n rfl dL_law_185 ?_
  refine zz_aload_n rfl dL_law_186 ?_
  refine zz_iload_n rfl dL_law_187 ?_
  refine zz_iconst (v := 1) (by decide) dL_law_188 ?_
  refine zz_iadd dL_law_189 ?_
  refine zz_iald0 dL_law_190 (lw_in (k := 1) hi hL (by decide)) ?_
  refine zz_aload_n rfl dL_law_191 ?_
  refine zz_iload_n rfl dL_law_192 ?_
  refine zz_iconst (v := 2) (by decide) dL_law_193 ?_
  refine zz_iadd dL_law_194 ?_
  refine zz_iald0 dL_law_195 (lw_in (k := 2) hi hL (by decide)) ?_
  refine zz_aload_n rfl dL_law_196 ?_
  refine zz_iload_n rfl dL_law_197 ?_
  refine zz_iconst (v := 3) (by decide) dL_law_198 ?_
  refine zz_iadd dL_law_199 ?_
  refine zz_iald0 dL_law_200 (lw_in (k := 3) hi hL (by decide)) ?_
  refine zz_aload_n rfl dL_law_201 ?_
  refine zz_iload_n rfl dL_law_202 ?_
  refine zz_iconst (v := 4) (by decide) dL_law_203 ?_
  refine zz_iadd dL_law_204 ?_
  refine zz_iald0 dL_law_205 (lw_in (k := 4) hi hL (by decide)) ?_
  refine zz_aload_n rfl dL_law_206 ?_
  refine zz_iload_n rfl dL_law_207 ?_
  refine zz_iconst (v := 5) (by decide) dL_law_208 ?_
  refine zz_iadd dL_law_209 ?_
  refine zz_iald0 dL_law_210 (lw_in (k := 5) hi hL (by decide)) ?_
  rw [h0]
  refine zz_cV5 dL_law_211 lL_17 rfl (os_259 hO) rfl rfl (Nat.le_of_ble_eq_true rfl) hk ?_
  refine hB _ (fun I2 J2 hR2 _ hT2 => ?_)
  try dsimp only [zz_s1, zz_s2, zz_kill, zz_ent, zz_fl, List.set_cons_zero, List.set_cons_succ, List.getElem?_cons_zero, List.getElem?_cons_succ, Option.toList_some, Option.toList_none, List.cons_append, List.nil_append, List.append_nil, List.length_cons, List.length_nil, List.replicate_succ, List.replicate_zero, Nat.reduceAdd, Nat.reduceSub]
  refine zz_icmp_eq (tgt := 1043) dL_law_214 (by decide) (fun _ => ?_) (fun z => absurd rfl z)
  exact nx I2 J2 hR2 hT2
theorem law_1 (hO : OK M) (hR : REL I) (hm : mT ≤ 400000) (hT : RT J mT) (hk : k ≤ 600) (hi : i + 6 ≤ (M.2 0).2.1) (hL : (M.2 0).2.1 ≤ 3072) (nx : ∀ (I2 : zz_I) (J2 : zz_J), REL I2 → RT J2 (mT + 600) → zz_G zz_yL 800 k 1043 [some (.ref 0), some (.ref 1), some (.ref 259), some (.int (nI i))] [] M I2 J2 zz_QL) : zz_G zz_yL 800 k 219 [some (.ref 0), some (.ref 1), some (.ref 259), some (.int (nI i))] [] M I J zz_QL := by
  refine zz_aload_n rfl dL_law_219 ?_
  refine zz_aload_n rfl dL_law_220 ?_
  refine zz_iload_n rfl dL_law_221 ?_
  refine zz_iconst (v := 1) (by decide) dL_law_222 ?_
  refine zz_iadd dL_law_223 ?_
  refine zz_iald0 dL_law_224 (lw_in (k := 1) hi hL (by decide)) ?_
  refine zz_cV1 dL_law_225 lL_18 rfl (os_1 hO) rfl rfl (Nat.le_of_ble_eq_true rfl) hk ?_
  refine two_end 728 hO hR hm hT _ (fun r I1 J1 hB h0 => ?_)
  try dsimp only [zz_s1, zz_s2, zz_kill, zz_ent, zz_fl, List.set_cons_zero, List.set_cons_succ, List.getElem?_cons_zero, List.getElem?_cons_succ, Option.toList_some, Option.toList_none, List.cons_append, List.nil_append, List.append_nil, List.length_cons, List.length_nil, List.replicate_succ, List.replicate_zero, Nat.reduceAdd, Nat.reduceSub]
  refine zz_aload_n rfl dL_law_228 ?_
  refine zz_aload_n rfl dL_law_229 ?_
  refine zz_iload_n rfl dL_law_230 ?_
  refine zz_iconst (v := 1) (by decide) dL_law_231 ?_
  refine zz_iadd dL_law_232 ?_
  refine zz_iald0 dL_law_233 (lw_in (k := 1) hi hL (by decide)) ?_
  rw [h0]
  refine zz_cV1 dL_law_234 lL_22 rfl (os_259 hO) rfl rfl (Nat.le_of_ble_eq_true rfl) hk ?_
  refine hB _ (fun I2 J2 hR2 _ hT2 => ?_)
  try dsimp only [zz_s1, zz_s2, zz_kill, zz_ent, zz_fl, List.set_cons_zero, List.set_cons_succ, List.getElem?_cons_zero, List.getElem?_cons_succ, Option.toList_some, Option.toList_none, List.cons_append, List.nil_append, List.append_nil, List.length_cons, List.length_nil, List.replicate_succ, List.replicate_zero, Nat.reduceAdd, Nat.reduceSub]
  refine zz_icmp_eq (tgt := 1043) dL_law_237 (by decide) (fun _ => ?_) (fun z => absurd rfl z)
  exact nx I2 J2 hR2 hT2
theorem law_2 (hO : OK M) (hR : REL I) (hm : mT ≤ 400000) (hT : RT J mT) (hk : k ≤ 600) (hi : i + 6 ≤ (M.2 0).2.1) (hL : (M.2 0).2.1 ≤ 3072) (nx : ∀ (I2 : zz_I) (J2 : zz_J), REL I2 → RT J2 (mT + 600) → zz_G zz_yL 800 k 1043 [some (.ref 0), some (.ref 1), some (.ref 259), some (.int (nI i))] [] M I2 J2 zz_QL) : zz_G zz_yL 800 k 242 [some (.ref 0), some (.ref 1), some (.ref 259), some (.int (nI i))] [] M I J zz_QL := by
  refine zz_aload_n rfl dL_law_242 ?_
  refine zz_aload_n rfl dL_law_243 ?_
  refine zz_iload_n rfl dL_law_244 ?_
  refine zz_iconst (v := 1) (by decide) dL_law_245 ?_
  refine zz_iadd dL_law_246 ?_
  refine zz_iald0 dL_law_247 (lw_in (k := 1) hi hL (by decide)) ?_
  refine zz_aload_n rfl dL_law_248 ?_
  refine zz_iload_n rfl dL_law_249 ?_
  refine zz_iconst (v := 2) (by decide) dL_law_250 ?_
  refine zz_iadd dL_law_251 ?_
  refine zz_iald0 dL_law_252 (lw_in (k := 2) hi hL (by decide)) ?_
  refine zz_cV2 dL_law_253 lL_23 rfl (os_1 hO) rfl rfl (Nat.le_of_ble_eq_true rfl) hk ?_
  refine two_net 728 hO hR hm hT _ (fun r I1 J1 hB h0 => ?_)
  try dsimp only [zz_s1, zz_s2, zz_kill, zz_ent, zz_fl, List.set_cons_zero, List.set_cons_succ, List.getElem?_cons_zero, List.getElem?_cons_succ, Option.toList_some, Option.toList_none, List.cons_append, List.nil_append, List.append_nil, List.length_cons, List.length_nil, List.replicate_succ, List.replicate_zero, Nat.reduceAdd, Nat.reduceSub]
  refine zz_aload_n rfl dL_law_256 ?_
  refine zz_aload_n rfl dL_law_257 ?_
  refine zz_iload_n rfl dL_law_258 ?_
  refine zz_iconst (v := 1) (by decide) dL_law_259 ?_
  refine zz_iadd dL_law_260 ?_
  refine zz_iald0 dL_law_261 (lw_in (k := 1) hi hL (by decide)) ?_
  refine zz_aload_n rfl dL_law_262 ?_
  refine zz_iload_n rfl dL_law_263 ?_
  refine zz_iconst (v := 2) (by decide) dL_law_264 ?_
  refine zz_iadd dL_law_265 ?_
  refine zz_iald0 dL_law_266 (lw_in (k := 2) hi hL (by decide)) ?_
  rw [h0]
  refine zz_cV2 dL_law_267 lL_27 rfl (os_259 hO) rfl rfl (Nat.le_of_ble_eq_true rfl) hk ?_
  refine hB _ (fun I2 J2 hR2 _ hT2 => ?_)
  try dsimp only [zz_s1, zz_s2, zz_kill, zz_ent, zz_fl, List.set_cons_zero, List.set_cons_succ, List.getElem?_cons_zero, List.getElem?_cons_succ, Option.toList_some, Option.toList_none, List.cons_append, List.nil_append, List.append_nil, List.length_cons, List.length_nil, List.replicate_succ, List.replicate_zero, Nat.reduceAdd, Nat.reduceSub]
  refine zz_icmp_eq (tgt := 1043) dL_law_270 (by decide) (fun _ => ?_) (fun z => absurd rfl z)
  exact nx I2 J2 hR2 hT2
theorem law_3 (hO : OK M) (hR : REL I) (hm : mT ≤ 400000) (hT : RT J mT) (hk : k ≤ 600) (hi : i + 6 ≤ (M.2 0).2.1) (hL : (M.2 0).2.1 ≤ 3072) (nx : ∀ (I2 : zz_I) (J2 : zz_J), REL I2 → RT J2 (mT + 600) → zz_G zz_yL 800 k 1043 [some (.ref 0), some (.ref 1), some (.ref 259), some (.int (nI i))] [] M I2 J2 zz_QL) : zz_G zz_yL 800 k 275 [some (.ref 0), some (.ref 1), some (.ref 259), some (.int (nI i))] [] M I J zz_QL := by
  refine zz_aload_n rfl dL_law_275 ?_
  refine zz_aload_n rfl dL_law_276 ?_
  refine zz_iload_n rfl dL_law_277 ?_
  refine zz_iconst (v := 1) (by decide) dL_law_278 ?_
  refine zz_iadd dL_law_279 ?_
  refine zz_iald0 dL_law_280 (lw_in (k := 1) hi hL (by decide)) ?_
  refine zz_aload_n rfl dL_law_281 ?_
  refine zz_iload_n rfl dL_law_282 ?_
  refine zz_iconst (v := 2) (by decide) dL_law_283 ?_
  refine zz_iadd dL_law_284 ?_
  refine zz_iald0 dL_law_285 (lw_in (k := 2) hi hL (by decide)) ?_
  refine zz_aload_n rfl dL_law_286 ?_
  refine zz_iload_n rfl dL_law_287 ?_
  refine zz_iconst (v := 3) (by decide) dL_law_288 ?_
  refine zz_iadd dL_law_289 ?_
  refine zz_iald0 dL_law_290 (lw_in (k := 3) hi hL (by decide)) ?_
  refine zz_aload_n rfl dL_law_291 ?_
  refine zz_iload_n rfl dL_law_292 ?_
  refine zz_iconst (v := 4) (by decide) dL_law_293 ?_
  refine zz_iadd dL_law_294 ?_
  refine zz_iald0 dL_law_295 (lw_in (k := 4) hi hL (by decide)) ?_
  refine zz_if_eq (tgt := 303) dL_law_296 (by decide) (fun hz => ?_) (fun hz => ?_)
  · skip
    refine zz_iconst (v := 0) (by decide) dL_law_303 ?_
    try dsimp only [zz_s1, zz_s2, zz_kill, zz_ent, zz_fl, List.set_cons_zero, List.set_cons_succ, List.getElem?_cons_zero, List.getElem?_cons_succ, Option.toList_some, Option.toList_none, List.cons_append, List.nil_append, List.append_nil, List.length_cons, List.length_nil, List.replicate_succ, List.replicate_zero, Nat.reduceAdd, Nat.reduceSub]
    refine zz_cV4 dL_law_304 lL_28 rfl (os_1 hO) rfl rfl (Nat.le_of_ble_eq_true rfl) hk ?_
    refine two_mistake 728 hO hR hm hT (on := 0) (Or.inl rfl) _ (fun r I1 J1 hB h0 => ?_)
    try dsimp only [zz_s1, zz_s2, zz_kill, zz_ent, zz_fl, List.set_cons_zero, List.set_cons_succ, List.getElem?_cons_zero, List.getElem?_cons_succ, Option.toList_some, Option.toList_none, List.cons_append, List.nil_append, List.append_nil, List.length_cons, List.length_nil, List.replicate_succ, List.replicate_zero, Nat.reduceAdd, Nat.reduceSub]
    refine zz_aload_n rfl dL_law_307 ?_
    refine zz_aload_n rfl dL_law_308 ?_
    refine zz_iload_n rfl dL_law_309 ?_
    refine zz_iconst (v := 1) (by decide) dL_law_310 ?_
    refine zz_iadd dL_law_311 ?_
    refine zz_iald0 dL_law_312 (lw_in (k := 1) hi hL (by decide)) ?_
    refine zz_aload_n rfl dL_law_313 ?_
    refine zz_iload_n rfl dL_law_314 ?_
    refine zz_iconst (v := 2) (by decide) dL_law_315 ?_
    refine zz_iadd dL_law_316 ?_
    refine zz_iald0 dL_law_317 (lw_in (k := 2) hi hL (by decide)) ?_
    refine zz_aload_n rfl dL_law_318 ?_
    refine zz_iload_n rfl dL_law_319 ?_
    refine zz_iconst (v := 3) (by decide) dL_law_320 ?_
    refine zz_iadd dL_law_321 ?_
    refine zz_iald0 dL_law_322 (lw_in (k := 3) hi hL (by decide)) ?_
    refine zz_aload_n rfl dL_law_323 ?_
    refine zz_iload_n rfl dL_law_324 ?_
    refine zz_iconst (v := 4) (by decide) dL_law_325 ?_
    refine zz_iadd dL_law_326 ?_
    refine zz_iald0 dL_law_327 (lw_in (k := 4) hi hL (by decide)) ?_
    rw [h0]
    refine zz_if_eq (tgt := 335) dL_law_328 (by decide) (fun _ => ?_) (fun z => absurd hz z)
    refine zz_iconst (v := 0) (by decide) dL_law_335 ?_
    try dsimp only [zz_s1, zz_s2, zz_kill, zz_ent, zz_fl, List.set_cons_zero, List.set_cons_succ, List.getElem?_cons_zero, List.getElem?_cons_succ, Option.toList_some, Option.toList_none, List.cons_append, List.nil_append, List.append_nil, List.length_cons, List.length_nil, List.replicate_succ, List.replicate_zero, Nat.reduceAdd, Nat.reduceSub]
    refine zz_cV4 dL_law_336 lL_32 rfl (os_259 hO) rfl rfl (Nat.le_of_ble_eq_true rfl) hk ?_
    refine hB _ (fun I2 J2 hR2 _ hT2 => ?_)
    try dsimp only [zz_s1, zz_s2, zz_kill, zz_ent, zz_fl, List.set_cons_zero, List.set_cons_succ, List.getElem?_cons_zero, List.getElem?_cons_succ, Option.toList_some, Option.toList_none, List.cons_append, List.nil_append, List.append_nil, List.length_cons, List.length_nil, List.replicate_succ, List.replicate_zero, Nat.reduceAdd, Nat.reduceSub]
    refine zz_icmp_eq (tgt := 1043) dL_law_339 (by decide) (fun _ => ?_) (fun z => absurd rfl z)
    exact nx I2 J2 hR2 hT2
  · skip
    refine zz_iconst (v := 1) (by decide) dL_law_299 ?_
    refine zz_goto (tgt := 304) dL_law_300 (by decide) ?_
    try dsimp only [zz_s1, zz_s2, zz_kill, zz_ent, zz_fl, List.set_cons_zero, List.set_cons_succ, List.getElem?_cons_zero, List.getElem?_cons_succ, Option.toList_some, Option.toList_none, List.cons_append, List.nil_append, List.append_nil, List.length_cons, List.length_nil, List.replicate_succ, List.replicate_zero, Nat.reduceAdd, Nat.reduceSub]
    refine zz_cV4 dL_law_304 lL_28 rfl (os_1 hO) rfl rfl (Nat.le_of_ble_eq_true rfl) hk ?_
    refine two_mistake 728 hO hR hm hT (on := 1) (Or.inr rfl) _ (fun r I1 J1 hB h0 => ?_)
    try dsimp only [zz_s1, zz_s2, zz_kill, zz_ent, zz_fl, List.set_cons_zero, List.set_cons_succ, List.getElem?_cons_zero, List.getElem?_cons_succ, Option.toList_some, Option.toList_none, List.cons_append, List.nil_append, List.append_nil, List.length_cons, List.length_nil, List.replicate_succ, List.replicate_zero, Nat.reduceAdd, Nat.reduceSub]
    refine zz_aload_n rfl dL_law_307 ?_
    refine zz_aload_n rfl dL_law_308 ?_
    refine zz_iload_n rfl dL_law_309 ?_
    refine zz_iconst (v := 1) (by decide) dL_law_310 ?_
    refine zz_iadd dL_law_311 ?_
    refine zz_iald0 dL_law_312 (lw_in (k := 1) hi hL (by decide)) ?_
    refine zz_aload_n rfl dL_law_313 ?_
    refine zz_iload_n rfl dL_law_314 ?_
    refine zz_iconst (v := 2) (by decide) dL_law_315 ?_
    refine zz_iadd dL_law_316 ?_
    refine zz_iald0 dL_law_317 (lw_in (k := 2) hi hL (by decide)) ?_
    refine zz_aload_n rfl dL_law_318 ?_
    refine zz_iload_n rfl dL_law_319 ?_
    refine zz_iconst (v := 3) (by decide) dL_law_320 ?_
    refine zz_iadd dL_law_321 ?_
    refine zz_iald0 dL_law_322 (lw_in (k := 3) hi hL (by decide)) ?_
    refine zz_aload_n rfl dL_law_323 ?_
    refine zz_iload_n rfl dL_law_324 ?_
    refine zz_iconst (v := 4) (by decide) dL_law_325 ?_
    refine zz_iadd dL_law_326 ?_
    refine zz_iald0 dL_law_327 (lw_in (k := 4) hi hL (by decide)) ?_
    rw [h0]
    refine zz_if_eq (tgt := 335) dL_law_328 (by decide) (fun z => absurd z hz) (fun _ => ?_)
    refine zz_iconst (v := 1) (by decide) dL_law_331 ?_
    refine zz_goto (tgt := 336) dL_law_332 (by decide) ?_
    try dsimp only [zz_s1, zz_s2, zz_kill, zz_ent, zz_fl, List.set_cons_zero, List.set_cons_succ, List.getElem?_cons_zero, List.getElem?_cons_succ, Option.toList_some, Option.toList_none, List.cons_append, List.nil_append, List.append_nil, List.length_cons, List.length_nil, List.replicate_succ, List.replicate_zero, Nat.reduceAdd, Nat.reduceSub]
    refine zz_cV4 dL_law_336 lL_32 rfl (os_259 hO) rfl rfl (Nat.le_of_ble_eq_true rfl) hk ?_
    refine hB _ (fun I2 J2 hR2 _ hT2 => ?_)
    try dsimp only [zz_s1, zz_s2, zz_kill, zz_ent, zz_fl, List.set_cons_zero, List.set_cons_succ, List.getElem?_cons_zero, List.getElem?_cons_succ, Option.toList_some, Option.toList_none, List.cons_append, List.nil_append, List.append_nil, List.length_cons, List.length_nil, List.replicate_succ, List.replicate_zero, Nat.reduceAdd, Nat.reduceSub]
    refine zz_icmp_eq (tgt := 1043) dL_law_339 (by decide) (fun _ => ?_) (fun z => absurd rfl z)
    exact nx I2 J2 hR2 hT2
theorem law_4 (hO : OK M) (hR : REL I) (hm : mT ≤ 400000) (hT : RT J mT) (hk : k ≤ 600) (hi : i + 6 ≤ (M.2 0).2.1) (hL : (M.2 0).2.1 ≤ 3072) (nx : ∀ (I2 : zz_I) (J2 : zz_J), REL I2 → RT J2 (mT + 600) → zz_G zz_yL 800 k 1043 [some (.ref 0), some (.ref 1), some (.ref 259), some (.int (nI i))] [] M I2 J2 zz_QL) : zz_G zz_yL 800 k 344 [some (.ref 0), some (.ref 1), some (.ref 259), some (.int (nI i))] [] M I J zz_QL := by
  refine zz_aload_n rfl dL_law_344 ?_
  refine zz_aload_n rfl dL_law_345 ?_
  refine zz_iload_n rfl dL_law_346 ?_
  refine zz_iconst (v := 1) (by decide) dL_law_347 ?_
  refine zz_iadd dL_law_348 ?_
  refine zz_iald0 dL_law_349 (lw_in (k := 1) hi hL (by decide)) ?_
  refine zz_aload_n rfl dL_law_350 ?_
  refine zz_iload_n rfl dL_law_351 ?_
  refine zz_iconst (v := 2) (by decide) dL_law_352 ?_
  refine zz_iadd dL_law_353 ?_
  refine zz_iald0 dL_law_354 (lw_in (k := 2) hi hL (by decide)) ?_
  refine zz_cV2 dL_law_355 lL_33 rfl (os_1 hO) rfl rfl (Nat.le_of_ble_eq_true rfl) hk ?_
  refine two_ring 728 hO hR hm hT _ (fun r I1 J1 hB h0 => ?_)
  try dsimp only [zz_s1, zz_s2, zz_kill, zz_ent, zz_fl, List.set_cons_zero, List.set_cons_succ, List.getElem?_cons_zero, List.getElem?_cons_succ, Option.toList_some, Option.toList_none, List.cons_append, List.nil_append, List.append_nil, List.length_cons, List.length_nil, List.replicate_succ, List.replicate_zero, Nat.reduceAdd, Nat.reduceSub]
  refine zz_aload_n rfl dL_law_358 ?_
  refine zz_aload_n rfl dL_law_359 ?_
  refine zz_iload_n rfl dL_law_360 ?_
  refine zz_iconst (v := 1) (by decide) dL_law_361 ?_
  refine zz_iadd dL_law_362 ?_
  refine zz_iald0 dL_law_363 (lw_in (k := 1) hi hL (by decide)) ?_
  refine zz_aload_n rfl dL_law_364 ?_
  refine zz_iload_n rfl dL_law_365 ?_
  refine zz_iconst (v := 2) (by decide) dL_law_366 ?_
  refine zz_iadd dL_law_367 ?_
  refine zz_iald0 dL_law_368 (lw_in (k := 2) hi hL (by decide)) ?_
  rw [h0]
  refine zz_cV2 dL_law_369 lL_36 rfl (os_259 hO) rfl rfl (Nat.le_of_ble_eq_true rfl) hk ?_
  refine hB _ (fun I2 J2 hR2 _ hT2 => ?_)
  try dsimp only [zz_s1, zz_s2, zz_kill, zz_ent, zz_fl, List.set_cons_zero, List.set_cons_succ, List.getElem?_cons_zero, List.getElem?_cons_succ, Option.toList_some, Option.toList_none, List.cons_append, List.nil_append, List.append_nil, List.length_cons, List.length_nil, List.replicate_succ, List.replicate_zero, Nat.reduceAdd, Nat.reduceSub]
  refine zz_icmp_eq (tgt := 1043) dL_law_372 (by decide) (fun _ => ?_) (fun z => absurd rfl z)
  exact nx I2 J2 hR2 hT2
theorem law_5 (hO : OK M) (hR : REL I) (hm : mT ≤ 400000) (hT : RT J mT) (hk : k ≤ 600) (hi : i + 6 ≤ (M.2 0).2.1) (hL : (M.2 0).2.1 ≤ 3072) (nx : ∀ (I2 : zz_I) (J2 : zz_J), REL I2 → RT J2 (mT + 600) → zz_G zz_yL 800 k 1043 [some (.ref 0), some (.ref 1), some (.ref 259), some (.int (nI i))] [] M I2 J2 zz_QL) : zz_G zz_yL 800 k 377 [some (.ref 0), some (.ref 1), some (.ref 259), some (.int (nI i))] [] M I J zz_QL := by
  refine zz_aload_n rfl dL_law_377 ?_
  refine zz_aload_n rfl dL_law_378 ?_
  refine zz_iload_n rfl dL_law_379 ?_
  refine zz_iconst (v := 1) (by decide) dL_law_380 ?_
  refine zz_iadd dL_law_381 ?_
  refine zz_iald0 dL_law_382 (lw_in (k := 1) hi hL (by decide)) ?_
  refine zz_cV1 dL_law_383 lL_37 rfl (os_1 hO) rfl rfl (Nat.le_of_ble_eq_true rfl) hk ?_
  refine two_told 728 hO hR hm hT _ (fun r I1 J1 hB h0 => ?_)
  try dsimp only [zz_s1, zz_s2, zz_kill, zz_ent, zz_fl, List.set_cons_zero, List.set_cons_succ, List.getElem?_cons_zero, List.getElem?_cons_succ, Option.toList_some, Option.toList_none, List.cons_append, List.nil_append, List.append_nil, List.length_cons, List.length_nil, List.replicate_succ, List.replicate_zero, Nat.reduceAdd, Nat.reduceSub]
  refine zz_aload_n rfl dL_law_386 ?_
  refine zz_aload_n rfl dL_law_387 ?_
  refine zz_iload_n rfl dL_law_388 ?_
  refine zz_iconst (v := 1) (by decide) dL_law_389 ?_
  refine zz_iadd dL_law_390 ?_
  refine zz_iald0 dL_law_391 (lw_in (k := 1) hi hL (by decide)) ?_
  rw [h0]
  refine zz_cV1 dL_law_392 lL_40 rfl (os_259 hO) rfl rfl (Nat.le_of_ble_eq_true rfl) hk ?_
  refine hB _ (fun I2 J2 hR2 _ hT2 => ?_)
  try dsimp only [zz_s1, zz_s2, zz_kill, zz_ent, zz_fl, List.set_cons_zero, List.set_cons_succ, List.getElem?_cons_zero, List.getElem?_cons_succ, Option.toList_some, Option.toList_none, List.cons_append, List.nil_append, List.append_nil, List.length_cons, List.length_nil, List.replicate_succ, List.replicate_zero, Nat.reduceAdd, Nat.reduceSub]
  refine zz_icmp_eq (tgt := 1043) dL_law_395 (by decide) (fun _ => ?_) (fun z => absurd rfl z)
  exact nx I2 J2 hR2 hT2
theorem law_6 (hO : OK M) (hR : REL I) (hm : mT ≤ 400000) (hT : RT J mT) (hk : k ≤ 600) (hi : i + 6 ≤ (M.2 0).2.1) (hL : (M.2 0).2.1 ≤ 3072) (nx : ∀ (I2 : zz_I) (J2 : zz_J), REL I2 → RT J2 (mT + 600) → zz_G zz_yL 800 k 1043 [some (.ref 0), some (.ref 1), some (.ref 259), some (.int (nI i))] [] M I2 J2 zz_QL) : zz_G zz_yL 800 k 400 [some (.ref 0), some (.ref 1), some (.ref 259), some (.int (nI i))] [] M I J zz_QL := by
  refine zz_aload_n rfl dL_law_400 ?_
  refine zz_aload_n rfl dL_law_401 ?_
  refine zz_iload_n rfl dL_law_402 ?_
  refine zz_iconst (v := 1) (by decide) dL_law_403 ?_
  refine zz_iadd dL_law_404 ?_
  refine zz_iald0 dL_law_405 (lw_in (k := 1) hi hL (by decide)) ?_
  refine zz_cV1 dL_law_406 lL_41 rfl (os_1 hO) rfl rfl (Nat.le_of_ble_eq_true rfl) hk ?_
  refine two_fault 728 hO hR hm hT _ (fun r I1 J1 hB h0 => ?_)
  try dsimp only [zz_s1, zz_s2, zz_kill, zz_ent, zz_fl, List.set_cons_zero, List.set_cons_succ, List.getElem?_cons_zero, List.getElem?_cons_succ, Option.toList_some, Option.toList_none, List.cons_append, List.nil_append, List.append_nil, List.length_cons, List.length_nil, List.replicate_succ, List.replicate_zero, Nat.reduceAdd, Nat.reduceSub]
  refine zz_aload_n rfl dL_law_409 ?_
  refine zz_aload_n rfl dL_law_410 ?_
  refine zz_iload_n rfl dL_law_411 ?_
  refine zz_iconst (v := 1) (by decide) dL_law_412 ?_
  refine zz_iadd dL_law_413 ?_
  refine zz_iald0 dL_law_414 (lw_in (k := 1) hi hL (by decide)) ?_
  rw [h0]
  refine zz_cV1 dL_law_415 lL_44 rfl (os_259 hO) rfl rfl (Nat.le_of_ble_eq_true rfl) hk ?_
  refine hB _ (fun I2 J2 hR2 _ hT2 => ?_)
  try dsimp only [zz_s1, zz_s2, zz_kill, zz_ent, zz_fl, List.set_cons_zero, List.set_cons_succ, List.getElem?_cons_zero, List.getElem?_cons_succ, Option.toList_some, Option.toList_none, List.cons_append, List.nil_append, List.append_nil, List.length_cons, List.length_nil, List.replicate_succ, List.replicate_zero, Nat.reduceAdd, Nat.reduceSub]
  refine zz_icmp_eq (tgt := 1043) dL_law_418 (by decide) (fun _ => ?_) (fun z => absurd rfl z)
  exact nx I2 J2 hR2 hT2
theorem law_7 (hO : OK M) (hR : REL I) (hm : mT ≤ 400000) (hT : RT J mT) (hk : k ≤ 600) (hi : i + 6 ≤ (M.2 0).2.1) (hL : (M.2 0).2.1 ≤ 3072) (nx : ∀ (I2 : zz_I) (J2 : zz_J), REL I2 → RT J2 (mT + 600) → zz_G zz_yL 800 k 1043 [some (.ref 0), some (.ref 1), some (.ref 259), some (.int (nI i))] [] M I2 J2 zz_QL) : zz_G zz_yL 800 k 423 [some (.ref 0), some (.ref 1), some (.ref 259), some (.int (nI i))] [] M I J zz_QL := by
  refine zz_aload_n rfl dL_law_423 ?_
  refine zz_aload_n rfl dL_law_424 ?_
  refine zz_iload_n rfl dL_law_425 ?_
  refine zz_iconst (v := 1) (by decide) dL_law_426 ?_
  refine zz_iadd dL_law_427 ?_
  refine zz_iald0 dL_law_428 (lw_in (k := 1) hi hL (by decide)) ?_
  refine zz_aload_n rfl dL_law_429 ?_
  refine zz_iload_n rfl dL_law_430 ?_
  refine zz_iconst (v := 2) (by decide) dL_law_431 ?_
  refine zz_iadd dL_law_432 ?_
  refine zz_iald0 dL_law_433 (lw_in (k := 2) hi hL (by decide)) ?_
  refine zz_aload_n rfl dL_law_434 ?_
  refine zz_iload_n rfl dL_law_435 ?_
  refine zz_iconst (v := 3) (by decide) dL_law_436 ?_
  refine zz_iadd dL_law_437 ?_
  refine zz_iald0 dL_law_438 (lw_in (k := 3) hi hL (by decide)) ?_
  refine zz_cV3 dL_law_439 lL_45 rfl (os_1 hO) rfl rfl (Nat.le_of_ble_eq_true rfl) hk ?_
  refine two_both 728 hO hR hm hT _ (fun r I1 J1 hB h0 => ?_)
  try dsimp only [zz_s1, zz_s2, zz_kill, zz_ent, zz_fl, List.set_cons_zero, List.set_cons_succ, List.getElem?_cons_zero, List.getElem?_cons_succ, Option.toList_some, Option.toList_none, List.cons_append, List.nil_append, List.append_nil, List.length_cons, List.length_nil, List.replicate_succ, List.replicate_zero, Nat.reduceAdd, Nat.reduceSub]
  refine zz_aload_n rfl dL_law_442 ?_
  refine zz_aload_n rfl dL_law_443 ?_
  refine zz_iload_n rfl dL_law_444 ?_
  refine zz_iconst (v := 1) (by decide) dL_law_445 ?_
  refine zz_iadd dL_law_446 ?_
  refine zz_iald0 dL_law_447 (lw_in (k := 1) hi hL (by decide)) ?_
  refine zz_aload_n rfl dL_law_448 ?_
  refine zz_iload_n rfl dL_law_449 ?_
  refine zz_iconst (v := 2) (by decide) dL_law_450 ?_
  refine zz_iadd dL_law_451 ?_
  refine zz_iald0 dL_law_452 (lw_in (k := 2) hi hL (by decide)) ?_
  refine zz_aload_n rfl dL_law_453 ?_
  refine zz_iload_n rfl dL_law_454 ?_
  refine zz_iconst (v := 3) (by decide) dL_law_455 ?_
  refine zz_iadd dL_law_456 ?_
  refine zz_iald0 dL_law_457 (lw_in (k := 3) hi hL (by decide)) ?_
  rw [h0]
  refine zz_cV3 dL_law_458 lL_49 rfl (os_259 hO) rfl rfl (Nat.le_of_ble_eq_true rfl) hk ?_
  refine hB _ (fun I2 J2 hR2 _ hT2 => ?_)
  try dsimp only [zz_s1, zz_s2, zz_kill, zz_ent, zz_fl, List.set_cons_zero, List.set_cons_succ, List.getElem?_cons_zero, List.getElem?_cons_succ, Option.toList_some, Option.toList_none, List.cons_append, List.nil_append, List.append_nil, List.length_cons, List.length_nil, List.replicate_succ, List.replicate_zero, Nat.reduceAdd, Nat.reduceSub]
  refine zz_icmp_eq (tgt := 1043) dL_law_461 (by decide) (fun _ => ?_) (fun z => absurd rfl z)
  exact nx I2 J2 hR2 hT2
theorem law_8 (hO : OK M) (hR : REL I) (hm : mT ≤ 400000) (hT : RT J mT) (hk : k ≤ 600) (hi : i + 6 ≤ (M.2 0).2.1) (hL : (M.2 0).2.1 ≤ 3072) (nx : ∀ (I2 : zz_I) (J2 : zz_J), REL I2 → RT J2 (mT + 600) → zz_G zz_yL 800 k 1043 [some (.ref 0), some (.ref 1), some (.ref 259), some (.int (nI i))] [] M I2 J2 zz_QL) : zz_G zz_yL 800 k 466 [some (.ref 0), some (.ref 1), some (.ref 259), some (.int (nI i))] [] M I J zz_QL := by
  refine zz_aload_n rfl dL_law_466 ?_
  refine zz_aload_n rfl dL_law_467 ?_
  refine zz_iload_n rfl dL_law_468 ?_
  refine zz_iconst (v := 1) (by decide) dL_law_469 ?_
  refine zz_iadd dL_law_470 ?_
  refine zz_iald0 dL_law_471 (lw_in (k := 1) hi hL (by decide)) ?_
  refine zz_aload_n rfl dL_law_472 ?_
  refine zz_iload_n rfl dL_law_473 ?_
  refine zz_iconst (v := 2) (by decide) dL_law_474 ?_
  refine zz_iadd dL_law_475 ?_
  refine zz_iald0 dL_law_476 (lw_in (k := 2) hi hL (by decide)) ?_
  refine zz_aload_n rfl dL_law_477 ?_
  refine zz_iload_n rfl dL_law_478 ?_
  refine zz_iconst (v := 3) (by decide) dL_law_479 ?_
  refine zz_iadd dL_law_480 ?_
  refine zz_iald0 dL_law_481 (lw_in (k := 3) hi hL (by decide)) ?_
  refine zz_cV3 dL_law_482 lL_50 rfl (os_1 hO) rfl rfl (Nat.le_of_ble_eq_true rfl) hk ?_
  refine two_either 728 hO hR hm hT _ (fun r I1 J1 hB h0 => ?_)
  try dsimp only [zz_s1, zz_s2, zz_kill, zz_ent, zz_fl, List.set_cons_zero, List.set_cons_succ, List.getElem?_cons_zero, List.getElem?_cons_succ, Option.toList_some, Option.toList_none, List.cons_append, List.nil_append, List.append_nil, List.length_cons, List.length_nil, List.replicate_succ, List.replicate_zero, Nat.reduceAdd, Nat.reduceSub]
  refine zz_aload_n rfl dL_law_485 ?_
  refine zz_aload_n rfl dL_law_486 ?_
  refine zz_iload_n rfl dL_law_487 ?_
  refine zz_iconst (v := 1) (by decide) dL_law_488 ?_
  refine zz_iadd dL_law_489 ?_
  refine zz_iald0 dL_law_490 (lw_in (k := 1) hi hL (by decide)) ?_
  refine zz_aload_n rfl dL_law_491 ?_
  refine zz_iload_n rfl dL_law_492 ?_
  refine zz_iconst (v := 2) (by decide) dL_law_493 ?_
  refine zz_iadd dL_law_494 ?_
  refine zz_iald0 dL_law_495 (lw_in (k := 2) hi hL (by decide)) ?_
  refine zz_aload_n rfl dL_law_496 ?_
  refine zz_iload_n rfl dL_law_497 ?_
  refine zz_iconst (v := 3) (by decide) dL_law_498 ?_
  refine zz_iadd dL_law_499 ?_
  refine zz_iald0 dL_law_500 (lw_in (k := 3) hi hL (by decide)) ?_
  rw [h0]
  refine zz_cV3 dL_law_501 lL_53 rfl (os_259 hO) rfl rfl (Nat.le_of_ble_eq_true rfl) hk ?_
  refine hB _ (fun I2 J2 hR2 _ hT2 => ?_)
  try dsimp only [zz_s1, zz_s2, zz_kill, zz_ent, zz_fl, List.set_cons_zero, List.set_cons_succ, List.getElem?_cons_zero, List.getElem?_cons_succ, Option.toList_some, Option.toList_none, List.cons_append, List.nil_append, List.append_nil, List.length_cons, List.length_nil, List.replicate_succ, List.replicate_zero, Nat.reduceAdd, Nat.reduceSub]
  refine zz_icmp_eq (tgt := 1043) dL_law_504 (by decide) (fun _ => ?_) (fun z => absurd rfl z)
  exact nx I2 J2 hR2 hT2
theorem law_9 (hO : OK M) (hR : REL I) (hm : mT ≤ 400000) (hT : RT J mT) (hk : k ≤ 600) (hi : i + 6 ≤ (M.2 0).2.1) (hL : (M.2 0).2.1 ≤ 3072) (nx : ∀ (I2 : zz_I) (J2 : zz_J), REL I2 → RT J2 (mT + 600) → zz_G zz_yL 800 k 1043 [some (.ref 0), some (.ref 1), some (.ref 259), some (.int (nI i))] [] M I2 J2 zz_QL) : zz_G zz_yL 800 k 509 [some (.ref 0), some (.ref 1), some (.ref 259), some (.int (nI i))] [] M I J zz_QL := by
  refine zz_aload_n rfl dL_law_509 ?_
  refine zz_aload_n rfl dL_law_510 ?_
  refine zz_iload_n rfl dL_law_511 ?_
  refine zz_iconst (v := 1) (by decide) dL_law_512 ?_
  refine zz_iadd dL_law_513 ?_
  refine zz_iald0 dL_law_514 (lw_in (k := 1) hi hL (by decide)) ?_
  refine zz_aload_n rfl dL_law_515 ?_
  refine zz_iload_n rfl dL_law_516 ?_
  refine zz_iconst (v := 2) (by decide) dL_law_517 ?_
  refine zz_iadd dL_law_518 ?_
  refine zz_iald0 dL_law_519 (lw_in (k := 2) hi hL (by decide)) ?_
  refine zz_cV2 dL_law_520 lL_54 rfl (os_1 hO) rfl rfl (Nat.le_of_ble_eq_true rfl) hk ?_
  refine two_about 728 hO hR hm hT _ (fun r I1 J1 hB h0 => ?_)
  try dsimp only [zz_s1, zz_s2, zz_kill, zz_ent, zz_fl, List.set_cons_zero, List.set_cons_succ, List.getElem?_cons_zero, List.getElem?_cons_succ, Option.toList_some, Option.toList_none, List.cons_append, List.nil_append, List.append_nil, List.length_cons, List.length_nil, List.replicate_succ, List.replicate_zero, Nat.reduceAdd, Nat.reduceSub]
  refine zz_aload_n rfl dL_law_523 ?_
  refine zz_aload_n rfl dL_law_524 ?_
  refine zz_iload_n rfl dL_law_525 ?_
  refine zz_iconst (v := 1) (by decide) dL_law_526 ?_
  refine zz_iadd dL_law_527 ?_
  refine zz_iald0 dL_law_528 (lw_in (k := 1) hi hL (by decide)) ?_
  refine zz_aload_n rfl dL_law_529 ?_
  refine zz_iload_n rfl dL_law_530 ?_
  refine zz_iconst (v := 2) (by decide) dL_law_531 ?_
  refine zz_iadd dL_law_532 ?_
  refine zz_iald0 dL_law_533 (lw_in (k := 2) hi hL (by decide)) ?_
  rw [h0]
  refine zz_cV2 dL_law_534 lL_57 rfl (os_259 hO) rfl rfl (Nat.le_of_ble_eq_true rfl) hk ?_
  refine hB _ (fun I2 J2 hR2 _ hT2 => ?_)
  try dsimp only [zz_s1, zz_s2, zz_kill, zz_ent, zz_fl, List.set_cons_zero, List.set_cons_succ, List.getElem?_cons_zero, List.getElem?_cons_succ, Option.toList_some, Option.toList_none, List.cons_append, List.nil_append, List.append_nil, List.length_cons, List.length_nil, List.replicate_succ, List.replicate_zero, Nat.reduceAdd, Nat.reduceSub]
  refine zz_icmp_eq (tgt := 1043) dL_law_537 (by decide) (fun _ => ?_) (fun z => absurd rfl z)
  exact nx I2 J2 hR2 hT2
theorem law_10 (hO : OK M) (hR : REL I) (hm : mT ≤ 400000) (hT : RT J mT) (hk : k ≤ 600) (hi : i + 6 ≤ (M.2 0).2.1) (hL : (M.2 0).2.1 ≤ 3072) (nx : ∀ (I2 : zz_I) (J2 : zz_J), REL I2 → RT J2 (mT + 600) → zz_G zz_yL 800 k 1043 [some (.ref 0), some (.ref 1), some (.ref 259), some (.int (nI i))] [] M I2 J2 zz_QL) : zz_G zz_yL 800 k 542 [some (.ref 0), some (.ref 1), some (.ref 259), some (.int (nI i))] [] M I J zz_QL := by
  refine zz_aload_n rfl dL_law_542 ?_
  refine zz_aload_n rfl dL_law_543 ?_
  refine zz_iload_n rfl dL_law_544 ?_
  refine zz_iconst (v := 1) (by decide) dL_law_545 ?_
  refine zz_iadd dL_law_546 ?_
  refine zz_iald0 dL_law_547 (lw_in (k := 1) hi hL (by decide)) ?_
  refine zz_aload_n rfl dL_law_548 ?_
  refine zz_iload_n rfl dL_law_549 ?_
  refine zz_iconst (v := 2) (by decide) dL_law_550 ?_
  refine zz_iadd dL_law_551 ?_
  refine zz_iald0 dL_law_552 (lw_in (k := 2) hi hL (by decide)) ?_
  refine zz_aload_n rfl dL_law_553 ?_
  refine zz_iload_n rfl dL_law_554 ?_
  refine zz_iconst (v := 3) (by decide) dL_law_555 ?_
  refine zz_iadd dL_law_556 ?_
  refine zz_iald0 dL_law_557 (lw_in (k := 3) hi hL (by decide)) ?_
  refine zz_aload_n rfl dL_law_558 ?_
  refine zz_iload_n rfl dL_law_559 ?_
  refine zz_iconst (v := 4) (by decide) dL_law_560 ?_
  refine zz_iadd dL_law_561 ?_
  refine zz_iald0 dL_law_562 (lw_in (k := 4) hi hL (by decide)) ?_
  refine zz_cV4 dL_law_563 lL_58 rfl (os_1 hO) rfl rfl (Nat.le_of_ble_eq_true rfl) hk ?_
  refine two_taken 728 hO hR hm hT _ (fun r I1 J1 hB h0 => ?_)
  try dsimp only [zz_s1, zz_s2, zz_kill, zz_ent, zz_fl, List.set_cons_zero, List.set_cons_succ, List.getElem?_cons_zero, List.getElem?_cons_succ, Option.toList_some, Option.toList_none, List.cons_append, List.nil_append, List.append_nil, List.length_cons, List.length_nil, List.replicate_succ, List.replicate_zero, Nat.reduceAdd, Nat.reduceSub]
  refine zz_aload_n rfl dL_law_566 ?_
  refine zz_aload_n rfl dL_law_567 ?_
  refine zz_iload_n rfl dL_law_568 ?_
  refine zz_iconst (v := 1) (by decide) dL_law_569 ?_
  refine zz_iadd dL_law_570 ?_
  refine zz_iald0 dL_law_571 (lw_in (k := 1) hi hL (by decide)) ?_
  refine zz_aload_n rfl dL_law_572 ?_
  refine zz_iload_n rfl dL_law_573 ?_
  refine zz_iconst (v := 2) (by decide) dL_law_574 ?_
  refine zz_iadd dL_law_575 ?_
  refine zz_iald0 dL_law_576 (lw_in (k := 2) hi hL (by decide)) ?_
  refine zz_aload_n rfl dL_law_577 ?_
  refine zz_iload_n rfl dL_law_578 ?_
  refine zz_iconst (v := 3) (by decide) dL_law_579 ?_
  refine zz_iadd dL_law_580 ?_
  refine zz_iald0 dL_law_581 (lw_in (k := 3) hi hL (by decide)) ?_
  refine zz_aload_n rfl dL_law_582 ?_
  refine zz_iload_n rfl dL_law_583 ?_
  refine zz_iconst (v := 4) (by decide) dL_law_584 ?_
  refine zz_iadd dL_law_585 ?_
  refine zz_iald0 dL_law_586 (lw_in (k := 4) hi hL (by decide)) ?_
  rw [h0]
  refine zz_cV4 dL_law_587 lL_62 rfl (os_259 hO) rfl rfl (Nat.le_of_ble_eq_true rfl) hk ?_
  refine hB _ (fun I2 J2 hR2 _ hT2 => ?_)
  try dsimp only [zz_s1, zz_s2, zz_kill, zz_ent, zz_fl, List.set_cons_zero, List.set_cons_succ, List.getElem?_cons_zero, List.getElem?_cons_succ, Option.toList_some, Option.toList_none, List.cons_append, List.nil_append, List.append_nil, List.length_cons, List.length_nil, List.replicate_succ, List.replicate_zero, Nat.reduceAdd, Nat.reduceSub]
  refine zz_icmp_eq (tgt := 1043) dL_law_590 (by decide) (fun _ => ?_) (fun z => absurd rfl z)
  exact nx I2 J2 hR2 hT2
theorem law_11 (hO : OK M) (hR : REL I) (hm : mT ≤ 400000) (hT : RT J mT) (hk : k ≤ 600) (hi : i + 6 ≤ (M.2 0).2.1) (hL : (M.2 0).2.1 ≤ 3072) (nx : ∀ (I2 : zz_I) (J2 : zz_J), REL I2 → RT J2 (mT + 600) → zz_G zz_yL 800 k 1043 [some (.ref 0), some (.ref 1), some (.ref 259), some (.int (nI i))] [] M I2 J2 zz_QL) : zz_G zz_yL 800 k 595 [some (.ref 0), some (.ref 1), some (.ref 259), some (.int (nI i))] [] M I J zz_QL := by
  refine zz_aload_n rfl dL_law_595 ?_
  refine zz_aload_n rfl dL_law_596 ?_
  refine zz_iload_n rfl dL_law_597 ?_
  refine zz_iconst (v := 1) (by decide) dL_law_598 ?_
  refine zz_iadd dL_law_599 ?_
  refine zz_iald0 dL_law_600 (lw_in (k := 1) hi hL (by decide)) ?_
  refine zz_aload_n rfl dL_law_601 ?_
  refine zz_iload_n rfl dL_law_602 ?_
  refine zz_iconst (v := 2) (by decide) dL_law_603 ?_
  refine zz_iadd dL_law_604 ?_
  refine zz_iald0 dL_law_605 (lw_in (k := 2) hi hL (by decide)) ?_
  refine zz_cV2 dL_law_606 lL_63 rfl (os_1 hO) rfl rfl (Nat.le_of_ble_eq_true rfl) hk ?_
  refine two_most 728 hO hR hm hT _ (fun r I1 J1 hB h0 => ?_)
  try dsimp only [zz_s1, zz_s2, zz_kill, zz_ent, zz_fl, List.set_cons_zero, List.set_cons_succ, List.getElem?_cons_zero, List.getElem?_cons_succ, Option.toList_some, Option.toList_none, List.cons_append, List.nil_append, List.append_nil, List.length_cons, List.length_nil, List.replicate_succ, List.replicate_zero, Nat.reduceAdd, Nat.reduceSub]
  refine zz_aload_n rfl dL_law_609 ?_
  refine zz_aload_n rfl dL_law_610 ?_
  refine zz_iload_n rfl dL_law_611 ?_
  refine zz_iconst (v := 1) (by decide) dL_law_612 ?_
  refine zz_iadd dL_law_613 ?_
  refine zz_iald0 dL_law_614 (lw_in (k := 1) hi hL (by decide)) ?_
  refine zz_aload_n rfl dL_law_615 ?_
  refine zz_iload_n rfl dL_law_616 ?_
  refine zz_iconst (v := 2) (by decide) dL_law_617 ?_
  refine zz_iadd dL_law_618 ?_
  refine zz_iald0 dL_law_619 (lw_in (k := 2) hi hL (by decide)) ?_
  rw [h0]
  refine zz_cV2 dL_law_620 lL_66 rfl (os_259 hO) rfl rfl (Nat.le_of_ble_eq_true rfl) hk ?_
  refine hB _ (fun I2 J2 hR2 _ hT2 => ?_)
  try dsimp only [zz_s1, zz_s2, zz_kill, zz_ent, zz_fl, List.set_cons_zero, List.set_cons_succ, List.getElem?_cons_zero, List.getElem?_cons_succ, Option.toList_some, Option.toList_none, List.cons_append, List.nil_append, List.append_nil, List.length_cons, List.length_nil, List.replicate_succ, List.replicate_zero, Nat.reduceAdd, Nat.reduceSub]
  refine zz_icmp_eq (tgt := 1043) dL_law_623 (by decide) (fun _ => ?_) (fun z => absurd rfl z)
  exact nx I2 J2 hR2 hT2
theorem law_12 (hO : OK M) (hR : REL I) (hm : mT ≤ 400000) (hT : RT J mT) (hk : k ≤ 600) (hi : i + 6 ≤ (M.2 0).2.1) (hL : (M.2 0).2.1 ≤ 3072) (nx : ∀ (I2 : zz_I) (J2 : zz_J), REL I2 → RT J2 (mT + 600) → zz_G zz_yL 800 k 1043 [some (.ref 0), some (.ref 1), some (.ref 259), some (.int (nI i))] [] M I2 J2 zz_QL) : zz_G zz_yL 800 k 628 [some (.ref 0), some (.ref 1), some (.ref 259), some (.int (nI i))] [] M I J zz_QL := by
  refine zz_aload_n rfl dL_law_628 ?_
  refine zz_aload_n rfl dL_law_629 ?_
  refine zz_iload_n rfl dL_law_630 ?_
  refine zz_iconst (v := 1) (by decide) dL_law_631 ?_
  refine zz_iadd dL_law_632 ?_
  refine zz_iald0 dL_law_633 (lw_in (k := 1) hi hL (by decide)) ?_
  refine zz_cV1 dL_law_634 lL_67 rfl (os_1 hO) rfl rfl (Nat.le_of_ble_eq_true rfl) hk ?_
  refine two_word 728 hO hR hm hT _ (fun r I1 J1 hB h0 => ?_)
  try dsimp only [zz_s1, zz_s2, zz_kill, zz_ent, zz_fl, List.set_cons_zero, List.set_cons_succ, List.getElem?_cons_zero, List.getElem?_cons_succ, Option.toList_some, Option.toList_none, List.cons_append, List.nil_append, List.append_nil, List.length_cons, List.length_nil, List.replicate_succ, List.replicate_zero, Nat.reduceAdd, Nat.reduceSub]
  refine zz_aload_n rfl dL_law_637 ?_
  refine zz_aload_n rfl dL_law_638 ?_
  refine zz_iload_n rfl dL_law_639 ?_
  refine zz_iconst (v := 1) (by decide) dL_law_640 ?_
  refine zz_iadd dL_law_641 ?_
  refine zz_iald0 dL_law_642 (lw_in (k := 1) hi hL (by decide)) ?_
  rw [h0]
  refine zz_cV1 dL_law_643 lL_70 rfl (os_259 hO) rfl rfl (Nat.le_of_ble_eq_true rfl) hk ?_
  refine hB _ (fun I2 J2 hR2 _ hT2 => ?_)
  try dsimp only [zz_s1, zz_s2, zz_kill, zz_ent, zz_fl, List.set_cons_zero, List.set_cons_succ, List.getElem?_cons_zero, List.getElem?_cons_succ, Option.toList_some, Option.toList_none, List.cons_append, List.nil_append, List.append_nil, List.length_cons, List.length_nil, List.replicate_succ, List.replicate_zero, Nat.reduceAdd, Nat.reduceSub]
  refine zz_icmp_eq (tgt := 1043) dL_law_646 (by decide) (fun _ => ?_) (fun z => absurd rfl z)
  exact nx I2 J2 hR2 hT2
theorem law_13 (hO : OK M) (hR : REL I) (hm : mT ≤ 400000) (hT : RT J mT) (hk : k ≤ 600) (hi : i + 6 ≤ (M.2 0).2.1) (hL : (M.2 0).2.1 ≤ 3072) (nx : ∀ (I2 : zz_I) (J2 : zz_J), REL I2 → RT J2 (mT + 600) → zz_G zz_yL 800 k 1043 [some (.ref 0), some (.ref 1), some (.ref 259), some (.int (nI i))] [] M I2 J2 zz_QL) : zz_G zz_yL 800 k 651 [some (.ref 0), some (.ref 1), some (.ref 259), some (.int (nI i))] [] M I J zz_QL := by
  refine zz_aload_n rfl dL_law_651 ?_
  refine zz_aload_n rfl dL_law_652 ?_
  refine zz_iload_n rfl dL_law_653 ?_
  refine zz_iconst (v := 1) (by decide) dL_law_654 ?_
  refine zz_iadd dL_law_655 ?_
  refine zz_iald0 dL_law_656 (lw_in (k := 1) hi hL (by decide)) ?_
  refine zz_aload_n rfl dL_law_657 ?_
  refine zz_iload_n rfl dL_law_658 ?_
  refine zz_iconst (v := 2) (by decide) dL_law_659 ?_
  refine zz_iadd dL_law_660 ?_
  refine zz_iald0 dL_law_661 (lw_in (k := 2) hi hL (by decide)) ?_
  refine zz_cV2 dL_law_662 lL_71 rfl (os_1 hO) rfl rfl (Nat.le_of_ble_eq_true rfl) hk ?_
  refine two_ways 728 hO hR hm hT _ (fun r I1 J1 hB h0 => ?_)
  try dsimp only [zz_s1, zz_s2, zz_kill, zz_ent, zz_fl, List.set_cons_zero, List.set_cons_succ, List.getElem?_cons_zero, List.getElem?_cons_succ, Option.toList_some, Option.toList_none, List.cons_append, List.nil_append, List.append_nil, List.length_cons, List.length_nil, List.replicate_succ, List.replicate_zero, Nat.reduceAdd, Nat.reduceSub]
  refine zz_aload_n rfl dL_law_665 ?_
  refine zz_aload_n rfl dL_law_666 ?_
  refine zz_iload_n rfl dL_law_667 ?_
  refine zz_iconst (v := 1) (by decide) dL_law_668 ?_
  refine zz_iadd dL_law_669 ?_
  refine zz_iald0 dL_law_670 (lw_in (k := 1) hi hL (by decide)) ?_
  refine zz_aload_n rfl dL_law_671 ?_
  refine zz_iload_n rfl dL_law_672 ?_
  refine zz_iconst (v := 2) (by decide) dL_law_673 ?_
  refine zz_iadd dL_law_674 ?_
  refine zz_iald0 dL_law_675 (lw_in (k := 2) hi hL (by decide)) ?_
  rw [h0]
  refine zz_cV2 dL_law_676 lL_74 rfl (os_259 hO) rfl rfl (Nat.le_of_ble_eq_true rfl) hk ?_
  refine hB _ (fun I2 J2 hR2 _ hT2 => ?_)
  try dsimp only [zz_s1, zz_s2, zz_kill, zz_ent, zz_fl, List.set_cons_zero, List.set_cons_succ, List.getElem?_cons_zero, List.getElem?_cons_succ, Option.toList_some, Option.toList_none, List.cons_append, List.nil_append, List.append_nil, List.length_cons, List.length_nil, List.replicate_succ, List.replicate_zero, Nat.reduceAdd, Nat.reduceSub]
  refine zz_icmp_eq (tgt := 1043) dL_law_679 (by decide) (fun _ => ?_) (fun z => absurd rfl z)
  exact nx I2 J2 hR2 hT2
theorem law_14 (hO : OK M) (hR : REL I) (hm : mT ≤ 400000) (hT : RT J mT) (hk : k ≤ 600) (hi : i + 6 ≤ (M.2 0).2.1) (hL : (M.2 0).2.1 ≤ 3072) (nx : ∀ (I2 : zz_I) (J2 : zz_J), REL I2 → RT J2 (mT + 600) → zz_G zz_yL 800 k 1043 [some (.ref 0), some (.ref 1), some (.ref 259), some (.int (nI i))] [] M I2 J2 zz_QL) : zz_G zz_yL 800 k 684 [some (.ref 0), some (.ref 1), some (.ref 259), some (.int (nI i))] [] M I J zz_QL := by
  refine zz_aload_n rfl dL_law_684 ?_
  refine zz_aload_n rfl dL_law_685 ?_
  refine zz_iload_n rfl dL_law_686 ?_
  refine zz_iconst (v := 1) (by decide) dL_law_687 ?_
  refine zz_iadd dL_law_688 ?_
  refine zz_iald0 dL_law_689 (lw_in (k := 1) hi hL (by decide)) ?_
  refine zz_cV1 dL_law_690 lL_75 rfl (os_1 hO) rfl rfl (Nat.le_of_ble_eq_true rfl) hk ?_
  refine two_heaps 728 hO hR hm hT _ (fun r I1 J1 hB h0 => ?_)
  try dsimp only [zz_s1, zz_s2, zz_kill, zz_ent, zz_fl, List.set_cons_zero, List.set_cons_succ, List.getElem?_cons_zero, List.getElem?_cons_succ, Option.toList_some, Option.toList_none, List.cons_append, List.nil_append, List.append_nil, List.length_cons, List.length_nil, List.replicate_succ, List.replicate_zero, Nat.reduceAdd, Nat.reduceSub]
  refine zz_aload_n rfl dL_law_693 ?_
  refine zz_aload_n rfl dL_law_694 ?_
  refine zz_iload_n rfl dL_law_695 ?_
  refine zz_iconst (v := 1) (by decide) dL_law_696 ?_
  refine zz_iadd dL_law_697 ?_
  refine zz_iald0 dL_law_698 (lw_in (k := 1) hi hL (by decide)) ?_
  rw [h0]
  refine zz_cV1 dL_law_699 lL_78 rfl (os_259 hO) rfl rfl (Nat.le_of_ble_eq_true rfl) hk ?_
  refine hB _ (fun I2 J2 hR2 _ hT2 => ?_)
  try dsimp only [zz_s1, zz_s2, zz_kill, zz_ent, zz_fl, List.set_cons_zero, List.set_cons_succ, List.getElem?_cons_zero, List.getElem?_cons_succ, Option.toList_some, Option.toList_none, List.cons_append, List.nil_append, List.append_nil, List.length_cons, List.length_nil, List.replicate_succ, List.replicate_zero, Nat.reduceAdd, Nat.reduceSub]
  refine zz_icmp_eq (tgt := 1043) dL_law_702 (by decide) (fun _ => ?_) (fun z => absurd rfl z)
  exact nx I2 J2 hR2 hT2
theorem law_15 (hO : OK M) (hR : REL I) (hm : mT ≤ 400000) (hT : RT J mT) (hk : k ≤ 600) (hi : i + 6 ≤ (M.2 0).2.1) (hL : (M.2 0).2.1 ≤ 3072) (nx : ∀ (I2 : zz_I) (J2 : zz_J), REL I2 → RT J2 (mT + 600) → zz_G zz_yL 800 k 1043 [some (.ref 0), some (.ref 1), some (.ref 259), some (.int (nI i))] [] M I2 J2 zz_QL) : zz_G zz_yL 800 k 707 [some (.ref 0), some (.ref 1), some (.ref 259), some (.int (nI i))] [] M I J zz_QL := by
  refine zz_aload_n rfl dL_law_707 ?_
  refine zz_aload_n rfl dL_law_708 ?_
  refine zz_iload_n rfl dL_law_709 ?_
  refine zz_iconst (v := 1) (by decide) dL_law_710 ?_
  refine zz_iadd dL_law_711 ?_
  refine zz_iald0 dL_law_712 (lw_in (k := 1) hi hL (by decide)) ?_
  refine zz_cV1 dL_law_713 lL_79 rfl (os_1 hO) rfl rfl (Nat.le_of_ble_eq_true rfl) hk ?_
  refine two_heap 728 hO hR hm hT _ (fun r I1 J1 hB h0 => ?_)
  try dsimp only [zz_s1, zz_s2, zz_kill, zz_ent, zz_fl, List.set_cons_zero, List.set_cons_succ, List.getElem?_cons_zero, List.getElem?_cons_succ, Option.toList_some, Option.toList_none, List.cons_append, List.nil_append, List.append_nil, List.length_cons, List.length_nil, List.replicate_succ, List.replicate_zero, Nat.reduceAdd, Nat.reduceSub]
  refine zz_aload_n rfl dL_law_716 ?_
  refine zz_aload_n rfl dL_law_717 ?_
  refine zz_iload_n rfl dL_law_718 ?_
  refine zz_iconst (v := 1) (by decide) dL_law_719 ?_
  refine zz_iadd dL_law_720 ?_
  refine zz_iald0 dL_law_721 (lw_in (k := 1) hi hL (by decide)) ?_
  rw [h0]
  refine zz_cV1 dL_law_722 lL_82 rfl (os_259 hO) rfl rfl (Nat.le_of_ble_eq_true rfl) hk ?_
  refine hB _ (fun I2 J2 hR2 _ hT2 => ?_)
  try dsimp only [zz_s1, zz_s2, zz_kill, zz_ent, zz_fl, List.set_cons_zero, List.set_cons_succ, List.getElem?_cons_zero, List.getElem?_cons_succ, Option.toList_some, Option.toList_none, List.cons_append, List.nil_append, List.append_nil, List.length_cons, List.length_nil, List.replicate_succ, List.replicate_zero, Nat.reduceAdd, Nat.reduceSub]
  refine zz_icmp_eq (tgt := 1043) dL_law_725 (by decide) (fun _ => ?_) (fun z => absurd rfl z)
  exact nx I2 J2 hR2 hT2
theorem law_16 (hO : OK M) (hR : REL I) (hm : mT ≤ 400000) (hT : RT J mT) (hk : k ≤ 600) (hi : i + 6 ≤ (M.2 0).2.1) (hL : (M.2 0).2.1 ≤ 3072) (nx : ∀ (I2 : zz_I) (J2 : zz_J), REL I2 → RT J2 (mT + 600) → zz_G zz_yL 800 k 1043 [some (.ref 0), some (.ref 1), some (.ref 259), some (.int (nI i))] [] M I2 J2 zz_QL) : zz_G zz_yL 800 k 730 [some (.ref 0), some (.ref 1), some (.ref 259), some (.int (nI i))] [] M I J zz_QL := by
  refine zz_aload_n rfl dL_law_730 ?_
  refine zz_aload_n rfl dL_law_731 ?_
  refine zz_iload_n rfl dL_law_732 ?_
  refine zz_iconst (v := 1) (by decide) dL_law_733 ?_
  refine zz_iadd dL_law_734 ?_
  refine zz_iald0 dL_law_735 (lw_in (k := 1) hi hL (by decide)) ?_
  refine zz_aload_n rfl dL_law_736 ?_
  refine zz_iload_n rfl dL_law_737 ?_
  refine zz_iconst (v := 2) (by decide) dL_law_738 ?_
  refine zz_iadd dL_law_739 ?_
  refine zz_iald0 dL_law_740 (lw_in (k := 2) hi hL (by decide)) ?_
  refine zz_aload_n rfl dL_law_741 ?_
  refine zz_iload_n rfl dL_law_742 ?_
  refine zz_iconst (v := 3) (by decide) dL_law_743 ?_
  refine zz_iadd dL_law_744 ?_
  refine zz_iald0 dL_law_745 (lw_in (k := 3) hi hL (by decide)) ?_
  refine zz_aload_n rfl dL_law_746 ?_
  refine zz_iload_n rfl dL_law_747 ?_
  refine zz_iconst (v := 4) (by decide) dL_law_748 ?_
  refine zz_iadd dL_law_749 ?_
  refine zz_iald0 dL_law_750 (lw_in (k := 4) hi hL (by decide)) ?_
  refine zz_cV4 dL_law_751 lL_83 rfl (os_1 hO) rfl rfl (Nat.le_of_ble_eq_true rfl) hk ?_
  refine two_row 728 hO hR hm hT _ (fun r I1 J1 hB h0 => ?_)
  try dsimp only [zz_s1, zz_s2, zz_kill, zz_ent, zz_fl, List.set_cons_zero, List.set_cons_succ, List.getElem?_cons_zero, List.getElem?_cons_succ, Option.toList_some, Option.toList_none, List.cons_append, List.nil_append, List.append_nil, List.length_cons, List.length_nil, List.replicate_succ, List.replicate_zero, Nat.reduceAdd, Nat.reduceSub]
  refine zz_aload_n rfl dL_law_754 ?_
  refine zz_aload_n rfl dL_law_755 ?_
  refine zz_iload_n rfl dL_law_756 ?_
  refine zz_iconst (v := 1) (by decide) dL_law_757 ?_
  refine zz_iadd dL_law_758 ?_
  refine zz_iald0 dL_law_759 (lw_in (k := 1) hi hL (by decide)) ?_
  refine zz_aload_n rfl dL_law_760 ?_
  refine zz_iload_n rfl dL_law_761 ?_
  refine zz_iconst (v := 2) (by decide) dL_law_762 ?_
  refine zz_iadd dL_law_763 ?_
  refine zz_iald0 dL_law_764 (lw_in (k := 2) hi hL (by decide)) ?_
  refine zz_aload_n rfl dL_law_765 ?_
  refine zz_iload_n rfl dL_law_766 ?_
  refine zz_iconst (v := 3) (by decide) dL_law_767 ?_
  refine zz_iadd dL_law_768 ?_
  refine zz_iald0 dL_law_769 (lw_in (k := 3) hi hL (by decide)) ?_
  refine zz_aload_n rfl dL_law_770 ?_
  refine zz_iload_n rfl dL_law_771 ?_
  refine zz_iconst (v := 4) (by decide) dL_law_772 ?_
  refine zz_iadd dL_law_773 ?_
  refine zz_iald0 dL_law_774 (lw_in (k := 4) hi hL (by decide)) ?_
  rw [h0]
  refine zz_cV4 dL_law_775 lL_86 rfl (os_259 hO) rfl rfl (Nat.le_of_ble_eq_true rfl) hk ?_
  refine hB _ (fun I2 J2 hR2 _ hT2 => ?_)
  try dsimp only [zz_s1, zz_s2, zz_kill, zz_ent, zz_fl, List.set_cons_zero, List.set_cons_succ, List.getElem?_cons_zero, List.getElem?_cons_succ, Option.toList_some, Option.toList_none, List.cons_append, List.nil_append, List.append_nil, List.length_cons, List.length_nil, List.replicate_succ, List.replicate_zero, Nat.reduceAdd, Nat.reduceSub]
  refine zz_icmp_eq (tgt := 1043) dL_law_778 (by decide) (fun _ => ?_) (fun z => absurd rfl z)
  exact nx I2 J2 hR2 hT2
theorem law_17 (hO : OK M) (hR : REL I) (hm : mT ≤ 400000) (hT : RT J mT) (hk : k ≤ 600) (hi : i + 6 ≤ (M.2 0).2.1) (hL : (M.2 0).2.1 ≤ 3072) (nx : ∀ (I2 : zz_I) (J2 : zz_J), REL I2 → RT J2 (mT + 600) → zz_G zz_yL 800 k 1043 [some (.ref 0), some (.ref 1), some (.ref 259), some (.int (nI i))] [] M I2 J2 zz_QL) : zz_G zz_yL 800 k 783 [some (.ref 0), some (.ref 1), some (.ref 259), some (.int (nI i))] [] M I J zz_QL := by
  refine zz_aload_n rfl dL_law_783 ?_
  refine zz_aload_n rfl dL_law_784 ?_
  refine zz_iload_n rfl dL_law_785 ?_
  refine zz_iconst (v := 1) (by decide) dL_law_786 ?_
  refine zz_iadd dL_law_787 ?_
  refine zz_iald0 dL_law_788 (lw_in (k := 1) hi hL (by decide)) ?_
  refine zz_cV1 dL_law_789 lL_87 rfl (os_1 hO) rfl rfl (Nat.le_of_ble_eq_true rfl) hk ?_
  refine two_stands 728 hO hR hm hT _ (fun r I1 J1 hB h0 => ?_)
  try dsimp only [zz_s1, zz_s2, zz_kill, zz_ent, zz_fl, List.set_cons_zero, List.set_cons_succ, List.getElem?_cons_zero, List.getElem?_cons_succ, Option.toList_some, Option.toList_none, List.cons_append, List.nil_append, List.append_nil, List.length_cons, List.length_nil, List.replicate_succ, List.replicate_zero, Nat.reduceAdd, Nat.reduceSub]
  refine zz_aload_n rfl dL_law_792 ?_
  refine zz_aload_n rfl dL_law_793 ?_
  refine zz_iload_n rfl dL_law_794 ?_
  refine zz_iconst (v := 1) (by decide) dL_law_795 ?_
  refine zz_iadd dL_law_796 ?_
  refine zz_iald0 dL_law_797 (lw_in (k := 1) hi hL (by decide)) ?_
  rw [h0]
  refine zz_cV1 dL_law_798 lL_90 rfl (os_259 hO) rfl rfl (Nat.le_of_ble_eq_true rfl) hk ?_
  refine hB _ (fun I2 J2 hR2 _ hT2 => ?_)
  try dsimp only [zz_s1, zz_s2, zz_kill, zz_ent, zz_fl, List.set_cons_zero, List.set_cons_succ, List.getElem?_cons_zero, List.getElem?_cons_succ, Option.toList_some, Option.toList_none, List.cons_append, List.nil_append, List.append_nil, List.length_cons, List.length_nil, List.replicate_succ, List.replicate_zero, Nat.reduceAdd, Nat.reduceSub]
  refine zz_icmp_eq (tgt := 1043) dL_law_801 (by decide) (fun _ => ?_) (fun z => absurd rfl z)
  exact nx I2 J2 hR2 hT2
theorem law_18 (hO : OK M) (hR : REL I) (hm : mT ≤ 400000) (hT : RT J mT) (hk : k ≤ 600) (hi : i + 6 ≤ (M.2 0).2.1) (hL : (M.2 0).2.1 ≤ 3072) (nx : ∀ (I2 : zz_I) (J2 : zz_J), REL I2 → RT J2 (mT + 600) → zz_G zz_yL 800 k 1043 [some (.ref 0), some (.ref 1), some (.ref 259), some (.int (nI i))] [] M I2 J2 zz_QL) : zz_G zz_yL 800 k 806 [some (.ref 0), some (.ref 1), some (.ref 259), some (.int (nI i))] [] M I J zz_QL := by
  refine zz_aload_n rfl dL_law_806 ?_
  refine zz_aload_n rfl dL_law_807 ?_
  refine zz_iload_n rfl dL_law_808 ?_
  refine zz_iconst (v := 1) (by decide) dL_law_809 ?_
  refine zz_iadd dL_law_810 ?_
  refine zz_iald0 dL_law_811 (lw_in (k := 1) hi hL (by decide)) ?_
  refine zz_aload_n rfl dL_law_812 ?_
  refine zz_iload_n rfl dL_law_813 ?_
  refine zz_iconst (v := 2) (by decide) dL_law_814 ?_
  refine zz_iadd dL_law_815 ?_
  refine zz_iald0 dL_law_816 (lw_in (k := 2) hi hL (by decide)) ?_
  refine zz_cV2 dL_law_817 lL_91 rfl (os_1 hO) rfl rfl (Nat.le_of_ble_eq_true rfl) hk ?_
  refine two_bound 728 hO hR hm hT _ (fun r I1 J1 hB h0 => ?_)
  try dsimp only [zz_s1, zz_s2, zz_kill, zz_ent, zz_fl, List.set_cons_zero, List.set_cons_succ, List.getElem?_cons_zero, List.getElem?_cons_succ, Option.toList_some, Option.toList_none, List.cons_append, List.nil_append, List.append_nil, List.length_cons, List.length_nil, List.replicate_succ, List.replicate_zero, Nat.reduceAdd, Nat.reduceSub]
  refine zz_aload_n rfl dL_law_820 ?_
  refine zz_aload_n rfl dL_law_821 ?_
  refine zz_iload_n rfl dL_law_822 ?_
  refine zz_iconst (v := 1) (by decide) dL_law_823 ?_
  refine zz_iadd dL_law_824 ?_
  refine zz_iald0 dL_law_825 (lw_in (k := 1) hi hL (by decide)) ?_
  refine zz_aload_n rfl dL_law_826 ?_
  refine zz_iload_n rfl dL_law_827 ?_
  refine zz_iconst (v := 2) (by decide) dL_law_828 ?_
  refine zz_iadd dL_law_829 ?_
  refine zz_iald0 dL_law_830 (lw_in (k := 2) hi hL (by decide)) ?_
  rw [h0]
  refine zz_cV2 dL_law_831 lL_94 rfl (os_259 hO) rfl rfl (Nat.le_of_ble_eq_true rfl) hk ?_
  refine hB _ (fun I2 J2 hR2 _ hT2 => ?_)
  try dsimp only [zz_s1, zz_s2, zz_kill, zz_ent, zz_fl, List.set_cons_zero, List.set_cons_succ, List.getElem?_cons_zero, List.getElem?_cons_succ, Option.toList_some, Option.toList_none, List.cons_append, List.nil_append, List.append_nil, List.length_cons, List.length_nil, List.replicate_succ, List.replicate_zero, Nat.reduceAdd, Nat.reduceSub]
  refine zz_icmp_eq (tgt := 1043) dL_law_834 (by decide) (fun _ => ?_) (fun z => absurd rfl z)
  exact nx I2 J2 hR2 hT2
theorem law_19 (hO : OK M) (hR : REL I) (hm : mT ≤ 400000) (hT : RT J mT) (hk : k ≤ 600) (hi : i + 6 ≤ (M.2 0).2.1) (hL : (M.2 0).2.1 ≤ 3072) (nx : ∀ (I2 : zz_I) (J2 : zz_J), REL I2 → RT J2 (mT + 600) → zz_G zz_yL 800 k 1043 [some (.ref 0), some (.ref 1), some (.ref 259), some (.int (nI i))] [] M I2 J2 zz_QL) : zz_G zz_yL 800 k 839 [some (.ref 0), some (.ref 1), some (.ref 259), some (.int (nI i))] [] M I J zz_QL := by
  refine zz_aload_n rfl dL_law_839 ?_
  refine zz_aload_n rfl dL_law_840 ?_
  refine zz_iload_n rfl dL_law_841 ?_
  refine zz_iconst (v := 1) (by decide) dL_law_842 ?_
  refine zz_iadd dL_law_843 ?_
  refine zz_iald0 dL_law_844 (lw_in (k := 1) hi hL (by decide)) ?_
  refine zz_aload_n rfl dL_law_845 ?_
  refine zz_iload_n rfl dL_law_846 ?_
  refine zz_iconst (v := 2) (by decide) dL_law_847 ?_
  refine zz_iadd dL_law_848 ?_
  refine zz_iald0 dL_law_849 (lw_in (k := 2) hi hL (by decide)) ?_
  refine zz_aload_n rfl dL_law_850 ?_
  refine zz_iload_n rfl dL_law_851 ?_
  refine zz_iconst (v := 3) (by decide) dL_law_852 ?_
  refine zz_iadd dL_law_853 ?_
  refine zz_iald0 dL_law_854 (lw_in (k := 3) hi hL (by decide)) ?_
  refine zz_aload_n rfl dL_law_855 ?_
  refine zz_iload_n rfl dL_law_856 ?_
  refine zz_iconst (v := 4) (by decide) dL_law_857 ?_
  refine zz_iadd dL_law_858 ?_
  refine zz_iald0 dL_law_859 (lw_in (k := 4) hi hL (by decide)) ?_
  refine zz_cV4 dL_law_860 lL_95 rfl (os_1 hO) rfl rfl (Nat.le_of_ble_eq_true rfl) hk ?_
  refine two_compare 728 hO hR hm hT _ (fun r I1 J1 hB h0 => ?_)
  try dsimp only [zz_s1, zz_s2, zz_kill, zz_ent, zz_fl, List.set_cons_zero, List.set_cons_succ, List.getElem?_cons_zero, List.getElem?_cons_succ, Option.toList_some, Option.toList_none, List.cons_append, List.nil_append, List.append_nil, List.length_cons, List.length_nil, List.replicate_succ, List.replicate_zero, Nat.reduceAdd, Nat.reduceSub]
  refine zz_aload_n rfl dL_law_863 ?_
  refine zz_aload_n rfl dL_law_864 ?_
  refine zz_iload_n rfl dL_law_865 ?_
  refine zz_iconst (v := 1) (by decide) dL_law_866 ?_
  refine zz_iadd dL_law_867 ?_
  refine zz_iald0 dL_law_868 (lw_in (k := 1) hi hL (by decide)) ?_
  refine zz_aload_n rfl dL_law_869 ?_
  refine zz_iload_n rfl dL_law_870 ?_
  refine zz_iconst (v := 2) (by decide) dL_law_871 ?_
  refine zz_iadd dL_law_872 ?_
  refine zz_iald0 dL_law_873 (lw_in (k := 2) hi hL (by decide)) ?_
  refine zz_aload_n rfl dL_law_874 ?_
  refine zz_iload_n rfl dL_law_875 ?_
  refine zz_iconst (v := 3) (by decide) dL_law_876 ?_
  refine zz_iadd dL_law_877 ?_
  refine zz_iald0 dL_law_878 (lw_in (k := 3) hi hL (by decide)) ?_
  refine zz_aload_n rfl dL_law_879 ?_
  refine zz_iload_n rfl dL_law_880 ?_
  refine zz_iconst (v := 4) (by decide) dL_law_881 ?_
  refine zz_iadd dL_law_882 ?_
  refine zz_iald0 dL_law_883 (lw_in (k := 4) hi hL (by decide)) ?_
  rw [h0]
  refine zz_cV4 dL_law_884 lL_98 rfl (os_259 hO) rfl rfl (Nat.le_of_ble_eq_true rfl) hk ?_
  refine hB _ (fun I2 J2 hR2 _ hT2 => ?_)
  try dsimp only [zz_s1, zz_s2, zz_kill, zz_ent, zz_fl, List.set_cons_zero, List.set_cons_succ, List.getElem?_cons_zero, List.getElem?_cons_succ, Option.toList_some, Option.toList_none, List.cons_append, List.nil_append, List.append_nil, List.length_cons, List.length_nil, List.replicate_succ, List.replicate_zero, Nat.reduceAdd, Nat.reduceSub]
  refine zz_icmp_eq (tgt := 1043) dL_law_887 (by decide) (fun _ => ?_) (fun z => absurd rfl z)
  exact nx I2 J2 hR2 hT2
theorem law_20 (hO : OK M) (hR : REL I) (hm : mT ≤ 400000) (hT : RT J mT) (hk : k ≤ 600) (hi : i + 6 ≤ (M.2 0).2.1) (hL : (M.2 0).2.1 ≤ 3072) (nx : ∀ (I2 : zz_I) (J2 : zz_J), REL I2 → RT J2 (mT + 600) → zz_G zz_yL 800 k 1043 [some (.ref 0), some (.ref 1), some (.ref 259), some (.int (nI i))] [] M I2 J2 zz_QL) : zz_G zz_yL 800 k 892 [some (.ref 0), some (.ref 1), some (.ref 259), some (.int (nI i))] [] M I J zz_QL := by
  refine zz_aload_n rfl dL_law_892 ?_
  refine zz_aload_n rfl dL_law_893 ?_
  refine zz_iload_n rfl dL_law_894 ?_
  refine zz_iconst (v := 1) (by decide) dL_law_895 ?_
  refine zz_iadd dL_law_896 ?_
  refine zz_iald0 dL_law_897 (lw_in (k := 1) hi hL (by decide)) ?_
  refine zz_cV1 dL_law_898 lL_99 rfl (os_1 hO) rfl rfl (Nat.le_of_ble_eq_true rfl) hk ?_
  refine two_best 728 hO hR hm hT _ (fun r I1 J1 hB h0 => ?_)
  try dsimp only [zz_s1, zz_s2, zz_kill, zz_ent, zz_fl, List.set_cons_zero, List.set_cons_succ, List.getElem?_cons_zero, List.getElem?_cons_succ, Option.toList_some, Option.toList_none, List.cons_append, List.nil_append, List.append_nil, List.length_cons, List.length_nil, List.replicate_succ, List.replicate_zero, Nat.reduceAdd, Nat.reduceSub]
  refine zz_aload_n rfl dL_law_901 ?_
  refine zz_aload_n rfl dL_law_902 ?_
  refine zz_iload_n rfl dL_law_903 ?_
  refine zz_iconst (v := 1) (by decide) dL_law_904 ?_
  refine zz_iadd dL_law_905 ?_
  refine zz_iald0 dL_law_906 (lw_in (k := 1) hi hL (by decide)) ?_
  rw [h0]
  refine zz_cV1 dL_law_907 lL_102 rfl (os_259 hO) rfl rfl (Nat.le_of_ble_eq_true rfl) hk ?_
  refine hB _ (fun I2 J2 hR2 _ hT2 => ?_)
  try dsimp only [zz_s1, zz_s2, zz_kill, zz_ent, zz_fl, List.set_cons_zero, List.set_cons_succ, List.getElem?_cons_zero, List.getElem?_cons_succ, Option.toList_some, Option.toList_none, List.cons_append, List.nil_append, List.append_nil, List.length_cons, List.length_nil, List.replicate_succ, List.replicate_zero, Nat.reduceAdd, Nat.reduceSub]
  refine zz_icmp_eq (tgt := 1043) dL_law_910 (by decide) (fun _ => ?_) (fun z => absurd rfl z)
  exact nx I2 J2 hR2 hT2
theorem law_21 (hO : OK M) (hR : REL I) (hm : mT ≤ 400000) (hT : RT J mT) (hk : k ≤ 600) (hi : i + 6 ≤ (M.2 0).2.1) (hL : (M.2 0).2.1 ≤ 3072) (nx : ∀ (I2 : zz_I) (J2 : zz_J), REL I2 → RT J2 (mT + 600) → zz_G zz_yL 800 k 1043 [some (.ref 0), some (.ref 1), some (.ref 259), some (.int (nI i))] [] M I2 J2 zz_QL) : zz_G zz_yL 800 k 915 [some (.ref 0), some (.ref 1), some (.ref 259), some (.int (nI i))] [] M I J zz_QL := by
  refine zz_aload_n rfl dL_law_915 ?_
  refine zz_aload_n rfl dL_law_916 ?_
  refine zz_iload_n rfl dL_law_917 ?_
  refine zz_iconst (v := 1) (by decide) dL_law_918 ?_
  refine zz_iadd dL_law_919 ?_
  refine zz_iald0 dL_law_920 (lw_in (k := 1) hi hL (by decide)) ?_
  refine zz_cV1 dL_law_921 lL_103 rfl (os_1 hO) rfl rfl (Nat.le_of_ble_eq_true rfl) hk ?_
  refine two_met 728 hO hR hm hT _ (fun r I1 J1 hB h0 => ?_)
  try dsimp only [zz_s1, zz_s2, zz_kill, zz_ent, zz_fl, List.set_cons_zero, List.set_cons_succ, List.getElem?_cons_zero, List.getElem?_cons_succ, Option.toList_some, Option.toList_none, List.cons_append, List.nil_append, List.append_nil, List.length_cons, List.length_nil, List.replicate_succ, List.replicate_zero, Nat.reduceAdd, Nat.reduceSub]
  refine zz_aload_n rfl dL_law_924 ?_
  refine zz_aload_n rfl dL_law_925 ?_
  refine zz_iload_n rfl dL_law_926 ?_
  refine zz_iconst (v := 1) (by decide) dL_law_927 ?_
  refine zz_iadd dL_law_928 ?_
  refine zz_iald0 dL_law_929 (lw_in (k := 1) hi hL (by decide)) ?_
  rw [h0]
  refine zz_cV1 dL_law_930 lL_106 rfl (os_259 hO) rfl rfl (Nat.le_of_ble_eq_true rfl) hk ?_
  refine hB _ (fun I2 J2 hR2 _ hT2 => ?_)
  try dsimp only [zz_s1, zz_s2, zz_kill, zz_ent, zz_fl, List.set_cons_zero, List.set_cons_succ, List.getElem?_cons_zero, List.getElem?_cons_succ, Option.toList_some, Option.toList_none, List.cons_append, List.nil_append, List.append_nil, List.length_cons, List.length_nil, List.replicate_succ, List.replicate_zero, Nat.reduceAdd, Nat.reduceSub]
  refine zz_icmp_eq (tgt := 1043) dL_law_933 (by decide) (fun _ => ?_) (fun z => absurd rfl z)
  exact nx I2 J2 hR2 hT2
theorem law_22 (hO : OK M) (hR : REL I) (hm : mT ≤ 400000) (hT : RT J mT) (hk : k ≤ 600) (hi : i + 6 ≤ (M.2 0).2.1) (hL : (M.2 0).2.1 ≤ 3072) (nx : ∀ (I2 : zz_I) (J2 : zz_J), REL I2 → RT J2 (mT + 600) → zz_G zz_yL 800 k 1043 [some (.ref 0), some (.ref 1), some (.ref 259), some (.int (nI i))] [] M I2 J2 zz_QL) : zz_G zz_yL 800 k 938 [some (.ref 0), some (.ref 1), some (.ref 259), some (.int (nI i))] [] M I J zz_QL := by
  refine zz_aload_n rfl dL_law_938 ?_
  refine zz_aload_n rfl dL_law_939 ?_
  refine zz_iload_n rfl dL_law_940 ?_
  refine zz_iconst (v := 1) (by decide) dL_law_941 ?_
  refine zz_iadd dL_law_942 ?_
  refine zz_iald0 dL_law_943 (lw_in (k := 1) hi hL (by decide)) ?_
  refine zz_cV1 dL_law_944 lL_107 rfl (os_1 hO) rfl rfl (Nat.le_of_ble_eq_true rfl) hk ?_
  refine two_came 728 hO hR hm hT _ (fun r I1 J1 hB h0 => ?_)
  try dsimp only [zz_s1, zz_s2, zz_kill, zz_ent, zz_fl, List.set_cons_zero, List.set_cons_succ, List.getElem?_cons_zero, List.getElem?_cons_succ, Option.toList_some, Option.toList_none, List.cons_append, List.nil_append, List.append_nil, List.length_cons, List.length_nil, List.replicate_succ, List.replicate_zero, Nat.reduceAdd, Nat.reduceSub]
  refine zz_aload_n rfl dL_law_947 ?_
  refine zz_aload_n rfl dL_law_948 ?_
  refine zz_iload_n rfl dL_law_949 ?_
  refine zz_iconst (v := 1) (by decide) dL_law_950 ?_
  refine zz_iadd dL_law_951 ?_
  refine zz_iald0 dL_law_952 (lw_in (k := 1) hi hL (by decide)) ?_
  rw [h0]
  refine zz_cV1 dL_law_953 lL_110 rfl (os_259 hO) rfl rfl (Nat.le_of_ble_eq_true rfl) hk ?_
  refine hB _ (fun I2 J2 hR2 _ hT2 => ?_)
  try dsimp only [zz_s1, zz_s2, zz_kill, zz_ent, zz_fl, List.set_cons_zero, List.set_cons_succ, List.getElem?_cons_zero, List.getElem?_cons_succ, Option.toList_some, Option.toList_none, List.cons_append, List.nil_append, List.append_nil, List.length_cons, List.length_nil, List.replicate_succ, List.replicate_zero, Nat.reduceAdd, Nat.reduceSub]
  refine zz_icmp_eq (tgt := 1043) dL_law_956 (by decide) (fun _ => ?_) (fun z => absurd rfl z)
  exact nx I2 J2 hR2 hT2
theorem law_23 (hO : OK M) (hR : REL I) (hm : mT ≤ 400000) (hT : RT J mT) (hk : k ≤ 600) (hi : i + 6 ≤ (M.2 0).2.1) (hL : (M.2 0).2.1 ≤ 3072) (nx : ∀ (I2 : zz_I) (J2 : zz_J), REL I2 → RT J2 (mT + 600) → zz_G zz_yL 800 k 1043 [some (.ref 0), some (.ref 1), some (.ref 259), some (.int (nI i))] [] M I2 J2 zz_QL) : zz_G zz_yL 800 k 961 [some (.ref 0), some (.ref 1), some (.ref 259), some (.int (nI i))] [] M I J zz_QL := by
  refine zz_aload_n rfl dL_law_961 ?_
  refine zz_cV0 dL_law_962 lL_111 rfl (os_1 hO) rfl rfl (Nat.le_of_ble_eq_true rfl) hk ?_
  refine two_sent 728 hO hR hm hT _ (fun r I1 J1 hB h0 => ?_)
  try dsimp only [zz_s1, zz_s2, zz_kill, zz_ent, zz_fl, List.set_cons_zero, List.set_cons_succ, List.getElem?_cons_zero, List.getElem?_cons_succ, Option.toList_some, Option.toList_none, List.cons_append, List.nil_append, List.append_nil, List.length_cons, List.length_nil, List.replicate_succ, List.replicate_zero, Nat.reduceAdd, Nat.reduceSub]
  refine zz_aload_n rfl dL_law_965 ?_
  refine zz_cV0 dL_law_966 lL_115 rfl (os_259 hO) rfl rfl (Nat.le_of_ble_eq_true rfl) hk ?_
  refine hB _ (fun I2 J2 hR2 _ hT2 => ?_)
  try dsimp only [zz_s1, zz_s2, zz_kill, zz_ent, zz_fl, List.set_cons_zero, List.set_cons_succ, List.getElem?_cons_zero, List.getElem?_cons_succ, Option.toList_some, Option.toList_none, List.cons_append, List.nil_append, List.append_nil, List.length_cons, List.length_nil, List.replicate_succ, List.replicate_zero, Nat.reduceAdd, Nat.reduceSub]
  refine zz_icmp_eq (tgt := 1043) dL_law_969 (by decide) (fun _ => ?_) (fun z => absurd rfl z)
  exact nx I2 J2 hR2 hT2
theorem law_24 (hO : OK M) (hR : REL I) (hm : mT ≤ 400000) (hT : RT J mT) (hk : k ≤ 600) (hi : i + 6 ≤ (M.2 0).2.1) (hL : (M.2 0).2.1 ≤ 3072) (nx : ∀ (I2 : zz_I) (J2 : zz_J), REL I2 → RT J2 (mT + 600) → zz_G zz_yL 800 k 1043 [some (.ref 0), some (.ref 1), some (.ref 259), some (.int (nI i))] [] M I2 J2 zz_QL) : zz_G zz_yL 800 k 974 [some (.ref 0), some (.ref 1), some (.ref 259), some (.int (nI i))] [] M I J zz_QL := by
  refine zz_aload_n rfl dL_law_974 ?_
  refine zz_aload_n rfl dL_law_975 ?_
  refine zz_iload_n rfl dL_law_976 ?_
  refine zz_iconst (v := 1) (by decide) dL_law_977 ?_
  refine zz_iadd dL_law_978 ?_
  refine zz_iald0 dL_law_979 (lw_in (k := 1) hi hL (by decide)) ?_
  refine zz_aload_n rfl dL_law_980 ?_
  refine zz_iload_n rfl dL_law_981 ?_
  refine zz_iconst (v := 2) (by decide) dL_law_982 ?_
  refine zz_iadd dL_law_983 ?_
  refine zz_iald0 dL_law_984 (lw_in (k := 2) hi hL (by decide)) ?_
  refine zz_cV2 dL_law_985 lL_116 rfl (os_1 hO) rfl rfl (Nat.le_of_ble_eq_true rfl) hk ?_
  refine two_list 728 hO hR hm hT _ (fun r I1 J1 hB h0 => ?_)
  try dsimp only [zz_s1, zz_s2, zz_kill, zz_ent, zz_fl, List.set_cons_zero, List.set_cons_succ, List.getElem?_cons_zero, List.getElem?_cons_succ, Option.toList_some, Option.toList_none, List.cons_append, List.nil_append, List.append_nil, List.length_cons, List.length_nil, List.replicate_succ, List.replicate_zero, Nat.reduceAdd, Nat.reduceSub]
  refine zz_aload_n rfl dL_law_988 ?_
  refine zz_aload_n rfl dL_law_989 ?_
  refine zz_iload_n rfl dL_law_990 ?_
  refine zz_iconst (v := 1) (by decide) dL_law_991 ?_
  refine zz_iadd dL_law_992 ?_
  refine zz_iald0 dL_law_993 (lw_in (k := 1) hi hL (by decide)) ?_
  refine zz_aload_n rfl dL_law_994 ?_
  refine zz_iload_n rfl dL_law_995 ?_
  refine zz_iconst (v := 2) (by decide) dL_law_996 ?_
  refine zz_iadd dL_law_997 ?_
  refine zz_iald0 dL_law_998 (lw_in (k := 2) hi hL (by decide)) ?_
  rw [h0]
  refine zz_cV2 dL_law_999 lL_119 rfl (os_259 hO) rfl rfl (Nat.le_of_ble_eq_true rfl) hk ?_
  refine hB _ (fun I2 J2 hR2 _ hT2 => ?_)
  try dsimp only [zz_s1, zz_s2, zz_kill, zz_ent, zz_fl, List.set_cons_zero, List.set_cons_succ, List.getElem?_cons_zero, List.getElem?_cons_succ, Option.toList_some, Option.toList_none, List.cons_append, List.nil_append, List.append_nil, List.length_cons, List.length_nil, List.replicate_succ, List.replicate_zero, Nat.reduceAdd, Nat.reduceSub]
  refine zz_icmp_eq (tgt := 1043) dL_law_1002 (by decide) (fun _ => ?_) (fun z => absurd rfl z)
  exact nx I2 J2 hR2 hT2
theorem law_25 (hO : OK M) (hR : REL I) (hm : mT ≤ 400000) (hT : RT J mT) (hk : k ≤ 600) (hi : i + 6 ≤ (M.2 0).2.1) (hL : (M.2 0).2.1 ≤ 3072) (nx : ∀ (I2 : zz_I) (J2 : zz_J), REL I2 → RT J2 (mT + 600) → zz_G zz_yL 800 k 1043 [some (.ref 0), some (.ref 1), some (.ref 259), some (.int (nI i))] [] M I2 J2 zz_QL) : zz_G zz_yL 800 k 1007 [some (.ref 0), some (.ref 1), some (.ref 259), some (.int (nI i))] [] M I J zz_QL := by
  refine zz_aload_n rfl dL_law_1007 ?_
  refine zz_cV0 dL_law_1008 lL_120 rfl (os_1 hO) rfl rfl (Nat.le_of_ble_eq_true rfl) hk ?_
  refine two_listed 728 hO hR hm hT _ (fun r I1 J1 hB h0 => ?_)
  try dsimp only [zz_s1, zz_s2, zz_kill, zz_ent, zz_fl, List.set_cons_zero, List.set_cons_succ, List.getElem?_cons_zero, List.getElem?_cons_succ, Option.toList_some, Option.toList_none, List.cons_append, List.nil_append, List.append_nil, List.length_cons, List.length_nil, List.replicate_succ, List.replicate_zero, Nat.reduceAdd, Nat.reduceSub]
  refine zz_aload_n rfl dL_law_1011 ?_
  refine zz_cV0 dL_law_1012 lL_123 rfl (os_259 hO) rfl rfl (Nat.le_of_ble_eq_true rfl) hk ?_
  refine hB _ (fun I2 J2 hR2 _ hT2 => ?_)
  try dsimp only [zz_s1, zz_s2, zz_kill, zz_ent, zz_fl, List.set_cons_zero, List.set_cons_succ, List.getElem?_cons_zero, List.getElem?_cons_succ, Option.toList_some, Option.toList_none, List.cons_append, List.nil_append, List.append_nil, List.length_cons, List.length_nil, List.replicate_succ, List.replicate_zero, Nat.reduceAdd, Nat.reduceSub]
  refine zz_icmp_eq (tgt := 1043) dL_law_1015 (by decide) (fun _ => ?_) (fun z => absurd rfl z)
  exact nx I2 J2 hR2 hT2
theorem law_26 (hO : OK M) (hR : REL I) (hm : mT ≤ 400000) (hT : RT J mT) (hk : k ≤ 600) (hi : i + 6 ≤ (M.2 0).2.1) (hL : (M.2 0).2.1 ≤ 3072) (nx : ∀ (I2 : zz_I) (J2 : zz_J), REL I2 → RT J2 (mT + 600) → zz_G zz_yL 800 k 1043 [some (.ref 0), some (.ref 1), some (.ref 259), some (.int (nI i))] [] M I2 J2 zz_QL) : zz_G zz_yL 800 k 1020 [some (.ref 0), some (.ref 1), some (.ref 259), some (.int (nI i))] [] M I J zz_QL := by
  refine zz_aload_n rfl dL_law_1020 ?_
  refine zz_aload_n rfl dL_law_1021 ?_
  refine zz_iload_n rfl dL_law_1022 ?_
  refine zz_iconst (v := 1) (by decide) dL_law_1023 ?_
  refine zz_iadd dL_law_1024 ?_
  refine zz_iald0 dL_law_1025 (lw_in (k := 1) hi hL (by decide)) ?_
  refine zz_cV1 dL_law_1026 lL_124 rfl (os_1 hO) rfl rfl (Nat.le_of_ble_eq_true rfl) hk ?_
  refine two_count 728 hO hR hm hT _ (fun r I1 J1 hB h0 => ?_)
  try dsimp only [zz_s1, zz_s2, zz_kill, zz_ent, zz_fl, List.set_cons_zero, List.set_cons_succ, List.getElem?_cons_zero, List.getElem?_cons_succ, Option.toList_some, Option.toList_none, List.cons_append, List.nil_append, List.append_nil, List.length_cons, List.length_nil, List.replicate_succ, List.replicate_zero, Nat.reduceAdd, Nat.reduceSub]
  refine zz_aload_n rfl dL_law_1029 ?_
  refine zz_aload_n rfl dL_law_1030 ?_
  refine zz_iload_n rfl dL_law_1031 ?_
  refine zz_iconst (v := 1) (by decide) dL_law_1032 ?_
  refine zz_iadd dL_law_1033 ?_
  refine zz_iald0 dL_law_1034 (lw_in (k := 1) hi hL (by decide)) ?_
  rw [h0]
  refine zz_cV1 dL_law_1035 lL_127 rfl (os_259 hO) rfl rfl (Nat.le_of_ble_eq_true rfl) hk ?_
  refine hB _ (fun I2 J2 hR2 _ hT2 => ?_)
  try dsimp only [zz_s1, zz_s2, zz_kill, zz_ent, zz_fl, List.set_cons_zero, List.set_cons_succ, List.getElem?_cons_zero, List.getElem?_cons_succ, Option.toList_some, Option.toList_none, List.cons_append, List.nil_append, List.append_nil, List.length_cons, List.length_nil, List.replicate_succ, List.replicate_zero, Nat.reduceAdd, Nat.reduceSub]
  refine zz_icmp_eq (tgt := 1043) dL_law_1038 (by decide) (fun _ => ?_) (fun z => absurd rfl z)
  exact nx I2 J2 hR2 hT2
end LawCases
