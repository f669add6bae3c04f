/-! ===== the cells behind the two constructors ===== -/
def LN (l : Nat) : Nat := 25 + 29 * l
def zo_sh : List (Nat × Nat × Nat) := [(1, 0, 9), (2, 0, 7), (3, 1, 600), (4, 0, 8), (5, 1, 24), (6, 4, 8), (7, 1, 24), (8, 0, 1), (9, 2, 64), (10, 0, 2), (11, 1, 24), (12, 1, 24), (13, 1, 24), (14, 0, 6), (15, 0, 5), (16, 2, 4), (17, 2, 4), (18, 0, 4), (19, 2, 16), (20, 2, 16), (21, 1, 17), (22, 0, 0), (23, 1, 64), (24, 1, 24), (257, 0, 10), (258, 1, 8), (259, 1, 8), (260, 1, 192), (261, 1, 192), (262, 1, 1200), (263, 1, 8), (264, 3, 600), (265, 1, 24), (266, 1, 24), (267, 2, 64), (268, 1, 64), (269, 1, 24), (270, 1, 24), (271, 1, 24), (272, 2, 12), (273, 2, 12)]
def zo_rf : List (Nat × Nat × Nat) := [(1, 0, 2), (1, 1, 4), (1, 2, 6), (1, 3, 7), (1, 4, 8), (1, 5, 10), (1, 6, 14), (1, 7, 15), (1, 8, 18), (1, 9, 22), (1, 10, 24), (2, 0, 3), (4, 0, 5), (8, 0, 9), (10, 0, 11), (10, 1, 12), (10, 2, 13), (15, 0, 16), (15, 1, 17), (18, 0, 19), (18, 1, 20), (18, 2, 21), (22, 0, 23), (257, 0, 258), (257, 1, 259), (257, 2, 260), (257, 3, 261), (257, 4, 262), (257, 5, 263), (257, 6, 264), (257, 10, 265), (257, 11, 266), (257, 12, 267), (257, 14, 268), (257, 19, 269), (257, 20, 270), (257, 22, 271), (257, 26, 272), (257, 27, 273)]
def zo_ln (M : zz_M) (l : Nat) : Prop := zz_is M (LN l) 0 3 ∧ (M.2 6).2.2 l = some (LN l) ∧ zz_is M (LN l + 1) 1 24 ∧ (M.2 (LN l)).2.2 3 = some (LN l + 1) ∧ zz_is M (LN l + 2) 1 24 ∧ (M.2 (LN l)).2.2 4 = some (LN l + 2) ∧ zz_is M (LN l + 3) 5 25 ∧ (M.2 (LN l)).2.2 5 = some (LN l + 3) ∧ ∀ a, a < 25 → (M.2 (LN l + 3)).2.2 a = some (LN l + 4 + a) ∧ zz_is M (LN l + 4 + a) 1 6
def OK (M : zz_M) : Prop := (∀ q ∈ zo_sh, zz_is M q.1 q.2.1 q.2.2) ∧ (∀ q ∈ zo_rf, (M.2 q.1).2.2 q.2.1 = some q.2.2) ∧ ∀ l, l < 8 → zo_ln M l
section ZO
variable {M : zz_M} {l : Nat}
theorem os_1 (h : OK M) : zz_is M 1 0 9 := h.1 (1, 0, 9) (by decide +kernel)
theorem os_2 (h : OK M) : zz_is M 2 0 7 := h.1 (2, 0, 7) (by decide +kernel)
theorem os_3 (h : OK M) : zz_is M 3 1 600 := h.1 (3, 1, 600) (by decide +kernel)
theorem os_4 (h : OK M) : zz_is M 4 0 8 := h.1 (4, 0, 8) (by decide +kernel)
theorem os_5 (h : OK M) : zz_is M 5 1 24 := h.1 (5, 1, 24) (by decide +kernel)
theorem os_6 (h : OK M) : zz_is M 6 4 8 := h.1 (6, 4, 8) (by decide +kernel)
theorem os_7 (h : OK M) : zz_is M 7 1 24 := h.1 (7, 1, 24) (by decide +kernel)
theorem os_8 (h : OK M) : zz_is M 8 0 1 := h.1 (8, 0, 1) (by decide +kernel)
theorem os_9 (h : OK M) : zz_is M 9 2 64 := h.1 (9, 2, 64) (by decide +kernel)
theorem os_10 (h : OK M) : zz_is M 10 0 2 := h.1 (10, 0, 2) (by decide +kernel)
theorem os_11 (h : OK M) : zz_is M 11 1 24 := h.1 (11, 1, 24) (by decide +kernel)
theorem os_12 (h : OK M) : zz_is M 12 1 24 := h.1 (12, 1, 24) (by decide +kernel)
theorem os_13 (h : OK M) : zz_is M 13 1 24 := h.1 (13, 1, 24) (by decide +kernel)
theorem os_14 (h : OK M) : zz_is M 14 0 6 := h.1 (14, 0, 6) (by decide +kernel)
theorem os_15 (h : OK M) : zz_is M 15 0 5 := h.1 (15, 0, 5) (by decide +kernel)
theorem os_16 (h : OK M) : zz_is M 16 2 4 := h.1 (16, 2, 4) (by decide +kernel)
theorem os_17 (h : OK M) : zz_is M 17 2 4 := h.1 (17, 2, 4) (by decide +kernel)
theorem os_18 (h : OK M) : zz_is M 18 0 4 := h.1 (18, 0, 4) (by decide +kernel)
theorem os_19 (h : OK M) : zz_is M 19 2 16 := h.1 (19, 2, 16) (by decide +kernel)
theorem os_20 (h : OK M) : zz_is M 20 2 16 := h.1 (20, 2, 16) (by decide +kernel)
theorem os_21 (h : OK M) : zz_is M 21 1 17 := h.1 (21, 1, 17) (by decide +kernel)
theorem os_22 (h : OK M) : zz_is M 22 0 0 := h.1 (22, 0, 0) (by decide +kernel)
theorem os_23 (h : OK M) : zz_is M 23 1 64 := h.1 (23, 1, 64) (by decide +kernel)
theorem os_24 (h : OK M) : zz_is M 24 1 24 := h.1 (24, 1, 24) (by decide +kernel)
theorem os_257 (h : OK M) : zz_is M 257 0 10 := h.1 (257, 0, 10) (by decide +kernel)
theorem os_258 (h : OK M) : zz_is M 258 1 8 := h.1 (258, 1, 8) (by decide +kernel)
theorem os_259 (h : OK M) : zz_is M 259 1 8 := h.1 (259, 1, 8) (by decide +kernel)
theorem os_260 (h : OK M) : zz_is M 260 1 192 := h.1 (260, 1, 192) (by decide +kernel)
theorem os_261 (h : OK M) : zz_is M 261 1 192 := h.1 (261, 1, 192) (by decide +kernel)
theorem os_262 (h : OK M) : zz_is M 262 1 1200 := h.1 (262, 1, 1200) (by decide +kernel)
theorem os_263 (h : OK M) : zz_is M 263 1 8 := h.1 (263, 1, 8) (by decide +kernel)
theorem os_264 (h : OK M) : zz_is M 264 3 600 := h.1 (264, 3, 600) (by decide +kernel)
theorem os_265 (h : OK M) : zz_is M 265 1 24 := h.1 (265, 1, 24) (by decide +kernel)
theorem os_266 (h : OK M) : zz_is M 266 1 24 := h.1 (266, 1, 24) (by decide +kernel)
theorem os_267 (h : OK M) : zz_is M 267 2 64 := h.1 (267, 2, 64) (by decide +kernel)
theorem os_268 (h : OK M) : zz_is M 268 1 64 := h.1 (268, 1, 64) (by decide +kernel)
theorem os_269 (h : OK M) : zz_is M 269 1 24 := h.1 (269, 1, 24) (by decide +kernel)
theorem os_270 (h : OK M) : zz_is M 270 1 24 := h.1 (270, 1, 24) (by decide +kernel)
theorem os_271 (h : OK M) : zz_is M 271 1 24 := h.1 (271, 1, 24) (by decide +kernel)
theorem os_272 (h : OK M) : zz_is M 272 2 12 := h.1 (272, 2, 12) (by decide +kernel)
theorem os_273 (h : OK M) : zz_is M 273 2 12 := h.1 (273, 2, 12) (by decide +kernel)
theorem or_1_0 (h : OK M) : (M.2 1).2.2 0 = some 2 := h.2.1 (1, 0, 2) (by decide +kernel)
theorem or_1_1 (h : OK M) : (M.2 1).2.2 1 = some 4 := h.2.1 (1, 1, 4) (by decide +kernel)
theorem or_1_2 (h : OK M) : (M.2 1).2.2 2 = some 6 := h.2.1 (1, 2, 6) (by decide +kernel)
theorem or_1_3 (h : OK M) : (M.2 1).2.2 3 = some 7 := h.2.1 (1, 3, 7) (by decide +kernel)
theorem or_1_4 (h : OK M) : (M.2 1).2.2 4 = some 8 := h.2.1 (1, 4, 8) (by decide +kernel)
theorem or_1_5 (h : OK M) : (M.2 1).2.2 5 = some 10 := h.2.1 (1, 5, 10) (by decide +kernel)
theorem or_1_6 (h : OK M) : (M.2 1).2.2 6 = some 14 := h.2.1 (1, 6, 14) (by decide +kernel)
theorem or_1_7 (h : OK M) : (M.2 1).2.2 7 = some 15 := h.2.1 (1, 7, 15) (by decide +kernel)
theorem or_1_8 (h : OK M) : (M.2 1).2.2 8 = some 18 := h.2.1 (1, 8, 18) (by decide +kernel)
theorem or_1_9 (h : OK M) : (M.2 1).2.2 9 = some 22 := h.2.1 (1, 9, 22) (by decide +kernel)
theorem or_1_10 (h : OK M) : (M.2 1).2.2 10 = some 24 := h.2.1 (1, 10, 24) (by decide +kernel)
theorem or_2_0 (h : OK M) : (M.2 2).2.2 0 = some 3 := h.2.1 (2, 0, 3) (by decide +kernel)
theorem or_4_0 (h : OK M) : (M.2 4).2.2 0 = some 5 := h.2.1 (4, 0, 5) (by decide +kernel)
theorem or_8_0 (h : OK M) : (M.2 8).2.2 0 = some 9 := h.2.1 (8, 0, 9) (by decide +kernel)
theorem or_10_0 (h : OK M) : (M.2 10).2.2 0 = some 11 := h.2.1 (10, 0, 11) (by decide +kernel)
theorem or_10_1 (h : OK M) : (M.2 10).2.2 1 = some 12 := h.2.1 (10, 1, 12) (by decide +kernel)
theorem or_10_2 (h : OK M) : (M.2 10).2.2 2 = some 13 := h.2.1 (10, 2, 13) (by decide +kernel)
theorem or_15_0 (h : OK M) : (M.2 15).2.2 0 = some 16 := h.2.1 (15, 0, 16) (by decide +kernel)
theorem or_15_1 (h : OK M) : (M.2 15).2.2 1 = some 17 := h.2.1 (15, 1, 17) (by decide +kernel)
theorem or_18_0 (h : OK M) : (M.2 18).2.2 0 = some 19 := h.2.1 (18, 0, 19) (by decide +kernel)
theorem or_18_1 (h : OK M) : (M.2 18).2.2 1 = some 20 := h.2.1 (18, 1, 20) (by decide +kernel)
theorem or_18_2 (h : OK M) : (M.2 18).2.2 2 = some 21 := h.2.1 (18, 2, 21) (by decide +kernel)
theorem or_22_0 (h : OK M) : (M.2 22).2.2 0 = some 23 := h.2.1 (22, 0, 23) (by decide +kernel)
theorem or_257_0 (h : OK M) : (M.2 257).2.2 0 = some 258 := h.2.1 (257, 0, 258) (by decide +kernel)
theorem or_257_1 (h : OK M) : (M.2 257).2.2 1 = some 259 := h.2.1 (257, 1, 259) (by decide +kernel)
theorem or_257_2 (h : OK M) : (M.2 257).2.2 2 = some 260 := h.2.1 (257, 2, 260) (by decide +kernel)
theorem or_257_3 (h : OK M) : (M.2 257).2.2 3 = some 261 := h.2.1 (257, 3, 261) (by decide +kernel)
theorem or_257_4 (h : OK M) : (M.2 257).2.2 4 = some 262 := h.2.1 (257, 4, 262) (by decide +kernel)
theorem or_257_5 (h : OK M) : (M.2 257).2.2 5 = some 263 := h.2.1 (257, 5, 263) (by decide +kernel)
theorem or_257_6 (h : OK M) : (M.2 257).2.2 6 = some 264 := h.2.1 (257, 6, 264) (by decide +kernel)
theorem or_257_10 (h : OK M) : (M.2 257).2.2 10 = some 265 := h.2.1 (257, 10, 265) (by decide +kernel)
theorem or_257_11 (h : OK M) : (M.2 257).2.2 11 = some 266 := h.2.1 (257, 11, 266) (by decide +kernel)
theorem or_257_12 (h : OK M) : (M.2 257).2.2 12 = some 267 := h.2.1 (257, 12, 267) (by decide +kernel)
theorem or_257_14 (h : OK M) : (M.2 257).2.2 14 = some 268 := h.2.1 (257, 14, 268) (by decide +kernel)
theorem or_257_19 (h : OK M) : (M.2 257).2.2 19 = some 269 := h.2.1 (257, 19, 269) (by decide +kernel)
theorem or_257_20 (h : OK M) : (M.2 257).2.2 20 = some 270 := h.2.1 (257, 20, 270) (by decide +kernel)
theorem or_257_22 (h : OK M) : (M.2 257).2.2 22 = some 271 := h.2.1 (257, 22, 271) (by decide +kernel)
theorem or_257_26 (h : OK M) : (M.2 257).2.2 26 = some 272 := h.2.1 (257, 26, 272) (by decide +kernel)
theorem or_257_27 (h : OK M) : (M.2 257).2.2 27 = some 273 := h.2.1 (257, 27, 273) (by decide +kernel)
theorem ol_obj (h : OK M) (hl : l < 8) : zz_is M (LN l) 0 3 := (h.2.2 l hl).1
theorem olr_line (h : OK M) (hl : l < 8) : (M.2 6).2.2 l = some (LN l) := (h.2.2 l hl).2.1
theorem ol_near (h : OK M) (hl : l < 8) : zz_is M (LN l + 1) 1 24 := (h.2.2 l hl).2.2.1
theorem olr_near (h : OK M) (hl : l < 8) : (M.2 (LN l)).2.2 3 = some (LN l + 1) := (h.2.2 l hl).2.2.2.1
theorem ol_signs (h : OK M) (hl : l < 8) : zz_is M (LN l + 2) 1 24 := (h.2.2 l hl).2.2.2.2.1
theorem olr_signs (h : OK M) (hl : l < 8) : (M.2 (LN l)).2.2 4 = some (LN l + 2) := (h.2.2 l hl).2.2.2.2.2.1
theorem ol_num (h : OK M) (hl : l < 8) : zz_is M (LN l + 3) 5 25 := (h.2.2 l hl).2.2.2.2.2.2.1
theorem olr_num (h : OK M) (hl : l < 8) : (M.2 (LN l)).2.2 5 = some (LN l + 3) := (h.2.2 l hl).2.2.2.2.2.2.2.1
theorem olr_row (h : OK M) (hl : l < 8) {a : Nat} (ha : a < 25) : (M.2 (LN l + 3)).2.2 a = some (LN l + 4 + a) := ((h.2.2 l hl).2.2.2.2.2.2.2.2 a ha).1
theorem ol_row (h : OK M) (hl : l < 8) {a : Nat} (ha : a < 25) : zz_is M (LN l + 4 + a) 1 6 := ((h.2.2 l hl).2.2.2.2.2.2.2.2 a ha).2
end ZO
