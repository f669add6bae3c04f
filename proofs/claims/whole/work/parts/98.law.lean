/-! ===== the law ===== -/
theorem zz_law {L : Nat} {xs : Nat → Int32} (hL : L ≤ 3072) : zz_G zz_yL 800 0 0 (zz_ent 4 [.ref 0]) [] (zz_M0 L) (zz_I0 xs) zz_J0 zz_QL := sorry
