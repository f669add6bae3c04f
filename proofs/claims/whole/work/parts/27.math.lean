/-! ===== Math.max, Math.min ===== -/
theorem zz_cMin : Lib.Math.min.code = cJ9_min_7cf53 := by decide +kernel
theorem zz_cMax : Lib.Math.max.code = cJ9_max_7cf53 := by decide +kernel
theorem zz_cMaxL : Lib.MathLoose.max_long.code = cJ9_max_f86c9 := by decide +kernel
section ZMath
variable {y : zz_Y} {d k pc : Nat} {ls : List (Option Value)} {st : List Value} {M : zz_M} {I : zz_I} {J : zz_J} {Q : zz_Q}
theorem zz_mmin {idx : Nat} {x z : Int32} (hd : decode y.2.1 pc = .ok (.invokestatic idx, 3)) (hl : zz_lS y.1.cls idx mJ9_min_7cf53 2) (hcat : (st.map fun v => v.category).sum ≤ 8) (kk : zz_G y (d + 1) k (pc + 3) ls (.int (if z < x then z else x) :: st) M I J Q) : zz_G y (d + 1) k pc ls (.int z :: .int x :: st) M I J Q := by
  intro p l e R t0 m args below meth c Z base b D cT H locs arr hh
  obtain ⟨hC, hZ, hk, hL, hW, hX, hS⟩ := hh
  have hts := hC.2.2.2.2.1
  have b1 := hC.2.2.2.2.2.2.2.2.2.1
  have b2 := hC.2.2.2.2.2.2.2.2.2.2.1
  have b3 := hC.2.2.2.2.2.2.2.1
  have b4 := hC.2.2.2.2.2.2.2.2.1
  refine va_mmin (rest := st.map (zz_tr base b)) hC.1 hC.2.1 (hC.2.2.1.trans hL.1.symm) hC.2.2.2.1 (hts _ hl.2.1) (hts _ hl.2.2) (hts _ hl.1.2.1) (by rw [zz_cMin]; exact hts _ hl.1.1) (by omega) (by rw [zz_catsum]; omega) (by omega) (by omega) hd ?_
  exact kk p l e R t0 m args below meth c Z base b D cT H locs arr ⟨hC, hZ, hk, hL, hW, hX, hS⟩
theorem zz_mmax {idx : Nat} {x z : Int32} (hd : decode y.2.1 pc = .ok (.invokestatic idx, 3)) (hl : zz_lS y.1.cls idx mJ9_max_7cf53 2) (hcat : (st.map fun v => v.category).sum ≤ 8) (kk : zz_G y (d + 1) k (pc + 3) ls (.int (if x < z then z else x) :: st) M I J Q) : zz_G y (d + 1) k pc ls (.int z :: .int x :: st) M I J Q := by
  intro p l e R t0 m args below meth c Z base b D cT H locs arr hh
  obtain ⟨hC, hZ, hk, hL, hW, hX, hS⟩ := hh
  have hts := hC.2.2.2.2.1
  have b1 := hC.2.2.2.2.2.2.2.2.2.1
  have b2 := hC.2.2.2.2.2.2.2.2.2.2.1
  have b3 := hC.2.2.2.2.2.2.2.1
  have b4 := hC.2.2.2.2.2.2.2.2.1
  refine va_mmax (rest := st.map (zz_tr base b)) hC.1 hC.2.1 (hC.2.2.1.trans hL.1.symm) hC.2.2.2.1 (hts _ hl.2.1) (hts _ hl.2.2) (hts _ hl.1.2.1) (by rw [zz_cMax]; exact hts _ hl.1.1) (by omega) (by rw [zz_catsum]; omega) (by omega) (by omega) hd ?_
  exact kk p l e R t0 m args below meth c Z base b D cT H locs arr ⟨hC, hZ, hk, hL, hW, hX, hS⟩
theorem zz_mmaxL {idx : Nat} {x z : Int64} (hd : decode y.2.1 pc = .ok (.invokestatic idx, 3)) (hl : zz_lS y.1.cls idx mJ9_max_f86c9 2) (hcat : (st.map fun v => v.category).sum ≤ 8) (kk : zz_G y (d + 1) k (pc + 3) ls (.long (if z < x then x else z) :: st) M I J Q) : zz_G y (d + 1) k pc ls (.long z :: .long x :: st) M I J Q := by
  intro p l e R t0 m args below meth c Z base b D cT H locs arr hh
  obtain ⟨hC, hZ, hk, hL, hW, hX, hS⟩ := hh
  have hts := hC.2.2.2.2.1
  have b1 := hC.2.2.2.2.2.2.2.2.2.1
  have b2 := hC.2.2.2.2.2.2.2.2.2.2.1
  have b3 := hC.2.2.2.2.2.2.2.1
  have b4 := hC.2.2.2.2.2.2.2.2.1
  refine va_mmax_long (rest := st.map (zz_tr base b)) hC.1 hC.2.1 (hC.2.2.1.trans hL.1.symm) hC.2.2.2.1 (hts _ hl.2.1) (hts _ hl.2.2) (hts _ hl.1.2.1) (by rw [zz_cMaxL]; exact hts _ hl.1.1) (by omega) (by rw [zz_catsum]; omega) (by omega) (by omega) hd ?_
  exact kk p l e R t0 m args below meth c Z base b D cT H locs arr ⟨hC, hZ, hk, hL, hW, hX, hS⟩
end ZMath
