/-! ===== rows: an instruction each ===== -/
def jv_ushr (x z : Int32) : Int32 := (x.toUInt32 >>> (z.toUInt32 &&& Int32.toUInt32 31)).toInt32
def jv_lushr (x : Int64) (z : Int32) : Int64 := (x.toUInt64 >>> (z.toInt64.toUInt64 &&& Int64.toUInt64 63)).toInt64
def jv_lshl (x : Int64) (z : Int32) : Int64 := x <<< (z.toInt64 &&& 63)
def jv_lshr (x : Int64) (z : Int32) : Int64 := x >>> (z.toInt64 &&& 63)
def jv_b (x : Int32) : Int32 := x.toInt8.toInt32
def jv_rem (x z : Int32) : Int32 := x - x / z * z
def jv_lrem (x z : Int64) : Int64 := x - x / z * z
section ZR
variable {y : zz_Y} {d k pc : Nat} {ls : List (Option Value)} {st : List Value} {M : zz_M} {I : zz_I} {J : zz_J} {Q : zz_Q}
theorem zz_iconst {n : Int} {v : Int32} (hv : Int32.ofInt n = v) (hd : decode y.2.1 pc = .ok (.iconst n, 1)) (kk : zz_G y d k (pc + 1) ls (.int v :: st) M I J Q) : zz_G y d k pc ls (st) M I J Q := by
  intro p l e R t0 m args below meth c Z base b D cT H locs arr hh
  obtain ⟨hC, hZ, hk, hL, hW, hX, hS⟩ := hh
  exact lv_iconst hC.1 hC.2.1 hd hv (kk p l e R t0 m args below meth c Z base b D cT H locs arr ⟨hC, hZ, hk, hL, hW, hX, hS⟩)
theorem zz_bipush {n : Int} {v : Int32} (hv : (Int8.ofInt n).toInt32 = v) (hd : decode y.2.1 pc = .ok (.bipush n, 2)) (kk : zz_G y d k (pc + 2) ls (.int v :: st) M I J Q) : zz_G y d k pc ls (st) M I J Q := by
  intro p l e R t0 m args below meth c Z base b D cT H locs arr hh
  obtain ⟨hC, hZ, hk, hL, hW, hX, hS⟩ := hh
  exact lv_bipush hC.1 hC.2.1 hd hv (kk p l e R t0 m args below meth c Z base b D cT H locs arr ⟨hC, hZ, hk, hL, hW, hX, hS⟩)
theorem zz_sipush {n : Int} {v : Int32} (hv : (Int16.ofInt n).toInt32 = v) (hd : decode y.2.1 pc = .ok (.sipush n, 3)) (kk : zz_G y d k (pc + 3) ls (.int v :: st) M I J Q) : zz_G y d k pc ls (st) M I J Q := by
  intro p l e R t0 m args below meth c Z base b D cT H locs arr hh
  obtain ⟨hC, hZ, hk, hL, hW, hX, hS⟩ := hh
  exact lv_sipush hC.1 hC.2.1 hd hv (kk p l e R t0 m args below meth c Z base b D cT H locs arr ⟨hC, hZ, hk, hL, hW, hX, hS⟩)
theorem zz_lconst {n : Fin 2} {v : Int64} (hv : Int64.ofNat (n : Nat) = v) (hd : decode y.2.1 pc = .ok (.lconst n, 1)) (kk : zz_G y d k (pc + 1) ls (.long v :: st) M I J Q) : zz_G y d k pc ls (st) M I J Q := by
  intro p l e R t0 m args below meth c Z base b D cT H locs arr hh
  obtain ⟨hC, hZ, hk, hL, hW, hX, hS⟩ := hh
  exact lv_lconst hC.1 hC.2.1 hd hv (kk p l e R t0 m args below meth c Z base b D cT H locs arr ⟨hC, hZ, hk, hL, hW, hX, hS⟩)
theorem zz_null  (hd : decode y.2.1 pc = .ok (.aconst_null, 1)) (kk : zz_G y d k (pc + 1) ls (.null :: st) M I J Q) : zz_G y d k pc ls (st) M I J Q := by
  intro p l e R t0 m args below meth c Z base b D cT H locs arr hh
  obtain ⟨hC, hZ, hk, hL, hW, hX, hS⟩ := hh
  exact lv_null hC.1 hC.2.1 hd (kk p l e R t0 m args below meth c Z base b D cT H locs arr ⟨hC, hZ, hk, hL, hW, hX, hS⟩)
theorem zz_ldc {n : Nat} {v : Int32} (hw : Cond.constant y.1.cls n v ∈ zz_tbl) (hd : decode y.2.1 pc = .ok (.ldc n, 2)) (kk : zz_G y d k (pc + 2) ls (.int v :: st) M I J Q) : zz_G y d k pc ls (st) M I J Q := by
  intro p l e R t0 m args below meth c Z base b D cT H locs arr hh
  obtain ⟨hC, hZ, hk, hL, hW, hX, hS⟩ := hh
  exact lv_ldc hC.1 hC.2.1 hC.2.2.2.1 (hC.2.2.2.2.1 _ hw) hd (kk p l e R t0 m args below meth c Z base b D cT H locs arr ⟨hC, hZ, hk, hL, hW, hX, hS⟩)
theorem zz_ldcw {n : Nat} {v : Int32} (hw : Cond.constant y.1.cls n v ∈ zz_tbl) (hd : decode y.2.1 pc = .ok (.ldc_w n, 3)) (kk : zz_G y d k (pc + 3) ls (.int v :: st) M I J Q) : zz_G y d k pc ls (st) M I J Q := by
  intro p l e R t0 m args below meth c Z base b D cT H locs arr hh
  obtain ⟨hC, hZ, hk, hL, hW, hX, hS⟩ := hh
  exact lv_ldcw hC.1 hC.2.1 hC.2.2.2.1 (hC.2.2.2.2.1 _ hw) hd (kk p l e R t0 m args below meth c Z base b D cT H locs arr ⟨hC, hZ, hk, hL, hW, hX, hS⟩)
theorem zz_ldc2 {n : Nat} {v : Int64} (hw : Cond.constantLong y.1.cls n v ∈ zz_tbl) (hd : decode y.2.1 pc = .ok (.ldc2_w n, 3)) (kk : zz_G y d k (pc + 3) ls (.long v :: st) M I J Q) : zz_G y d k pc ls (st) M I J Q := by
  intro p l e R t0 m args below meth c Z base b D cT H locs arr hh
  obtain ⟨hC, hZ, hk, hL, hW, hX, hS⟩ := hh
  exact lv_ldc2 hC.1 hC.2.1 hC.2.2.2.1 (hC.2.2.2.2.1 _ hw) hd (kk p l e R t0 m args below meth c Z base b D cT H locs arr ⟨hC, hZ, hk, hL, hW, hX, hS⟩)
theorem zz_iload_n {n : Fin 4} {x : Int32} (hl : ls[(n : Nat)]? = some (some (.int x))) (hd : decode y.2.1 pc = .ok (.iload_n n, 1)) (kk : zz_G y d k (pc + 1) ls (.int x :: st) M I J Q) : zz_G y d k pc ls (st) M I J Q := by
  intro p l e R t0 m args below meth c Z base b D cT H locs arr hh
  obtain ⟨hC, hZ, hk, hL, hW, hX, hS⟩ := hh
  exact lv_iload_n hC.1 hC.2.1 hd rfl (hL.2.2 _ _ hl) (kk p l e R t0 m args below meth c Z base b D cT H locs arr ⟨hC, hZ, hk, hL, hW, hX, hS⟩)
theorem zz_iload {n : Nat} {x : Int32} (hl : ls[n]? = some (some (.int x))) (hd : decode y.2.1 pc = .ok (.iload n, 2)) (kk : zz_G y d k (pc + 2) ls (.int x :: st) M I J Q) : zz_G y d k pc ls (st) M I J Q := by
  intro p l e R t0 m args below meth c Z base b D cT H locs arr hh
  obtain ⟨hC, hZ, hk, hL, hW, hX, hS⟩ := hh
  exact lv_iload hC.1 hC.2.1 hd (hL.2.2 _ _ hl) (kk p l e R t0 m args below meth c Z base b D cT H locs arr ⟨hC, hZ, hk, hL, hW, hX, hS⟩)
theorem zz_lload_n {n : Fin 4} {x : Int64} (hl : ls[(n : Nat)]? = some (some (.long x))) (hd : decode y.2.1 pc = .ok (.lload_n n, 1)) (kk : zz_G y d k (pc + 1) ls (.long x :: st) M I J Q) : zz_G y d k pc ls (st) M I J Q := by
  intro p l e R t0 m args below meth c Z base b D cT H locs arr hh
  obtain ⟨hC, hZ, hk, hL, hW, hX, hS⟩ := hh
  exact lv_lload_n hC.1 hC.2.1 hd rfl (hL.2.2 _ _ hl) (kk p l e R t0 m args below meth c Z base b D cT H locs arr ⟨hC, hZ, hk, hL, hW, hX, hS⟩)
theorem zz_lload {n : Nat} {x : Int64} (hl : ls[n]? = some (some (.long x))) (hd : decode y.2.1 pc = .ok (.lload n, 2)) (kk : zz_G y d k (pc + 2) ls (.long x :: st) M I J Q) : zz_G y d k pc ls (st) M I J Q := by
  intro p l e R t0 m args below meth c Z base b D cT H locs arr hh
  obtain ⟨hC, hZ, hk, hL, hW, hX, hS⟩ := hh
  exact lv_lload hC.1 hC.2.1 hd (hL.2.2 _ _ hl) (kk p l e R t0 m args below meth c Z base b D cT H locs arr ⟨hC, hZ, hk, hL, hW, hX, hS⟩)
theorem zz_aload_n {n : Fin 4} {x : Nat} (hl : ls[(n : Nat)]? = some (some (.ref x))) (hd : decode y.2.1 pc = .ok (.aload_n n, 1)) (kk : zz_G y d k (pc + 1) ls (.ref x :: st) M I J Q) : zz_G y d k pc ls (st) M I J Q := by
  intro p l e R t0 m args below meth c Z base b D cT H locs arr hh
  obtain ⟨hC, hZ, hk, hL, hW, hX, hS⟩ := hh
  exact lv_aload_n hC.1 hC.2.1 hd rfl (hL.2.2 _ _ hl) (kk p l e R t0 m args below meth c Z base b D cT H locs arr ⟨hC, hZ, hk, hL, hW, hX, hS⟩)
theorem zz_aload {n : Nat} {x : Nat} (hl : ls[n]? = some (some (.ref x))) (hd : decode y.2.1 pc = .ok (.aload n, 2)) (kk : zz_G y d k (pc + 2) ls (.ref x :: st) M I J Q) : zz_G y d k pc ls (st) M I J Q := by
  intro p l e R t0 m args below meth c Z base b D cT H locs arr hh
  obtain ⟨hC, hZ, hk, hL, hW, hX, hS⟩ := hh
  exact lv_aload hC.1 hC.2.1 hd (hL.2.2 _ _ hl) (kk p l e R t0 m args below meth c Z base b D cT H locs arr ⟨hC, hZ, hk, hL, hW, hX, hS⟩)
theorem zz_nload_n {n : Fin 4} (hl : ls[(n : Nat)]? = some (some .null)) (hd : decode y.2.1 pc = .ok (.aload_n n, 1)) (kk : zz_G y d k (pc + 1) ls (.null :: st) M I J Q) : zz_G y d k pc ls (st) M I J Q := by
  intro p l e R t0 m args below meth c Z base b D cT H locs arr hh
  obtain ⟨hC, hZ, hk, hL, hW, hX, hS⟩ := hh
  exact lv_aload_nN hC.1 hC.2.1 hd rfl (hL.2.2 _ _ hl) (kk p l e R t0 m args below meth c Z base b D cT H locs arr ⟨hC, hZ, hk, hL, hW, hX, hS⟩)
theorem zz_nload {n : Nat} (hl : ls[n]? = some (some .null)) (hd : decode y.2.1 pc = .ok (.aload n, 2)) (kk : zz_G y d k (pc + 2) ls (.null :: st) M I J Q) : zz_G y d k pc ls (st) M I J Q := by
  intro p l e R t0 m args below meth c Z base b D cT H locs arr hh
  obtain ⟨hC, hZ, hk, hL, hW, hX, hS⟩ := hh
  exact lv_aloadN hC.1 hC.2.1 hd (hL.2.2 _ _ hl) (kk p l e R t0 m args below meth c Z base b D cT H locs arr ⟨hC, hZ, hk, hL, hW, hX, hS⟩)
theorem zz_istore_n {n : Fin 4} {x : Int32} (hd : decode y.2.1 pc = .ok (.istore_n n, 1)) (hn : (n : Nat) < y.2.2.1) (kk : zz_G y d k (pc + 1) (zz_s1 ls (n : Nat) (.int x)) st M I J Q) : zz_G y d k pc ls (.int x :: st) M I J Q := by
  intro p l e R t0 m args below meth c Z base b D cT H locs arr hh
  obtain ⟨hC, hZ, hk, hL, hW, hX, hS⟩ := hh
  exact lv_istore_n hC.1 hC.2.1 hd rfl hL.has hn rfl (fun arr' hl => kk p l e R t0 m args below meth c Z base b D cT H locs arr' ⟨hC, hZ, hk, zz_L.store1 (v := .int x) hl, hW, hX, hS⟩)
theorem zz_istore {n : Nat} {x : Int32} (hd : decode y.2.1 pc = .ok (.istore n, 2)) (hn : n < y.2.2.1) (kk : zz_G y d k (pc + 2) (zz_s1 ls n (.int x)) st M I J Q) : zz_G y d k pc ls (.int x :: st) M I J Q := by
  intro p l e R t0 m args below meth c Z base b D cT H locs arr hh
  obtain ⟨hC, hZ, hk, hL, hW, hX, hS⟩ := hh
  exact lv_istore hC.1 hC.2.1 hd hL.has hn rfl (fun arr' hl => kk p l e R t0 m args below meth c Z base b D cT H locs arr' ⟨hC, hZ, hk, zz_L.store1 (v := .int x) hl, hW, hX, hS⟩)
theorem zz_lstore_n {n : Fin 4} {x : Int64} (hd : decode y.2.1 pc = .ok (.lstore_n n, 1)) (hn : (n : Nat) + 1 < y.2.2.1) (kk : zz_G y d k (pc + 1) (zz_s2 ls (n : Nat) (.long x)) st M I J Q) : zz_G y d k pc ls (.long x :: st) M I J Q := by
  intro p l e R t0 m args below meth c Z base b D cT H locs arr hh
  obtain ⟨hC, hZ, hk, hL, hW, hX, hS⟩ := hh
  exact lv_lstore_n hC.1 hC.2.1 hd rfl hL.has hn rfl (fun arr' hl => kk p l e R t0 m args below meth c Z base b D cT H locs arr' ⟨hC, hZ, hk, zz_L.store2 (v := .long x) hl, hW, hX, hS⟩)
theorem zz_lstore {n : Nat} {x : Int64} (hd : decode y.2.1 pc = .ok (.lstore n, 2)) (hn : n + 1 < y.2.2.1) (kk : zz_G y d k (pc + 2) (zz_s2 ls n (.long x)) st M I J Q) : zz_G y d k pc ls (.long x :: st) M I J Q := by
  intro p l e R t0 m args below meth c Z base b D cT H locs arr hh
  obtain ⟨hC, hZ, hk, hL, hW, hX, hS⟩ := hh
  exact lv_lstore hC.1 hC.2.1 hd hL.has hn rfl (fun arr' hl => kk p l e R t0 m args below meth c Z base b D cT H locs arr' ⟨hC, hZ, hk, zz_L.store2 (v := .long x) hl, hW, hX, hS⟩)
theorem zz_astore_n {n : Fin 4} {x : Nat} (hd : decode y.2.1 pc = .ok (.astore_n n, 1)) (hn : (n : Nat) < y.2.2.1) (kk : zz_G y d k (pc + 1) (zz_s1 ls (n : Nat) (.ref x)) st M I J Q) : zz_G y d k pc ls (.ref x :: st) M I J Q := by
  intro p l e R t0 m args below meth c Z base b D cT H locs arr hh
  obtain ⟨hC, hZ, hk, hL, hW, hX, hS⟩ := hh
  exact lv_astore_n hC.1 hC.2.1 hd rfl hL.has hn rfl (fun arr' hl => kk p l e R t0 m args below meth c Z base b D cT H locs arr' ⟨hC, hZ, hk, zz_L.store1 (v := .ref x) hl, hW, hX, hS⟩)
theorem zz_astore {n : Nat} {x : Nat} (hd : decode y.2.1 pc = .ok (.astore n, 2)) (hn : n < y.2.2.1) (kk : zz_G y d k (pc + 2) (zz_s1 ls n (.ref x)) st M I J Q) : zz_G y d k pc ls (.ref x :: st) M I J Q := by
  intro p l e R t0 m args below meth c Z base b D cT H locs arr hh
  obtain ⟨hC, hZ, hk, hL, hW, hX, hS⟩ := hh
  exact lv_astore hC.1 hC.2.1 hd hL.has hn rfl (fun arr' hl => kk p l e R t0 m args below meth c Z base b D cT H locs arr' ⟨hC, hZ, hk, zz_L.store1 (v := .ref x) hl, hW, hX, hS⟩)
theorem zz_nstore_n {n : Fin 4} (hd : decode y.2.1 pc = .ok (.astore_n n, 1)) (hn : (n : Nat) < y.2.2.1) (kk : zz_G y d k (pc + 1) (zz_s1 ls (n : Nat) (.null)) st M I J Q) : zz_G y d k pc ls (.null :: st) M I J Q := by
  intro p l e R t0 m args below meth c Z base b D cT H locs arr hh
  obtain ⟨hC, hZ, hk, hL, hW, hX, hS⟩ := hh
  exact lv_astore_nN hC.1 hC.2.1 hd rfl hL.has hn rfl (fun arr' hl => kk p l e R t0 m args below meth c Z base b D cT H locs arr' ⟨hC, hZ, hk, zz_L.store1 (v := .null) hl, hW, hX, hS⟩)
theorem zz_nstore {n : Nat} (hd : decode y.2.1 pc = .ok (.astore n, 2)) (hn : n < y.2.2.1) (kk : zz_G y d k (pc + 2) (zz_s1 ls n (.null)) st M I J Q) : zz_G y d k pc ls (.null :: st) M I J Q := by
  intro p l e R t0 m args below meth c Z base b D cT H locs arr hh
  obtain ⟨hC, hZ, hk, hL, hW, hX, hS⟩ := hh
  exact lv_astoreN hC.1 hC.2.1 hd hL.has hn rfl (fun arr' hl => kk p l e R t0 m args below meth c Z base b D cT H locs arr' ⟨hC, hZ, hk, zz_L.store1 (v := .null) hl, hW, hX, hS⟩)
theorem zz_iinc {n : Nat} {j : Int} {x v : Int32} (hd : decode y.2.1 pc = .ok (.iinc n j, 3)) (hl : ls[n]? = some (some (.int x))) (hv : x + Int32.ofInt j = v) (hn : n < y.2.2.1) (kk : zz_G y d k (pc + 3) (zz_s1 ls n (.int v)) st M I J Q) : zz_G y d k pc ls st M I J Q := by
  intro p l e R t0 m args below meth c Z base b D cT H locs arr hh
  obtain ⟨hC, hZ, hk, hL, hW, hX, hS⟩ := hh
  obtain ⟨q, hq⟩ := List.getElem?_of_mem (zz_al_mem.mpr ⟨.int x, hl, rfl⟩ : ((n, zz_tr base b (.int x)) : Nat × Value) ∈ zz_al base b ls)
  exact lv_iinc hC.1 hC.2.1 hd hL.has hq hv hn rfl (fun arr' hl => kk p l e R t0 m args below meth c Z base b D cT H locs arr' ⟨hC, hZ, hk, zz_L.store1 (v := .int v) hl, hW, hX, hS⟩)
theorem zz_iadd {x z : Int32} (hd : decode y.2.1 pc = .ok (.iadd, 1)) (kk : zz_G y d k (pc + 1) ls (.int (x + z) :: st) M I J Q) : zz_G y d k pc ls (.int z :: .int x :: st) M I J Q := by
  intro p l e R t0 m args below meth c Z base b D cT H locs arr hh
  obtain ⟨hC, hZ, hk, hL, hW, hX, hS⟩ := hh
  exact lv_iadd hC.1 hC.2.1 hd (kk p l e R t0 m args below meth c Z base b D cT H locs arr ⟨hC, hZ, hk, hL, hW, hX, hS⟩)
theorem zz_isub {x z : Int32} (hd : decode y.2.1 pc = .ok (.isub, 1)) (kk : zz_G y d k (pc + 1) ls (.int (x - z) :: st) M I J Q) : zz_G y d k pc ls (.int z :: .int x :: st) M I J Q := by
  intro p l e R t0 m args below meth c Z base b D cT H locs arr hh
  obtain ⟨hC, hZ, hk, hL, hW, hX, hS⟩ := hh
  exact lv_isub hC.1 hC.2.1 hd (kk p l e R t0 m args below meth c Z base b D cT H locs arr ⟨hC, hZ, hk, hL, hW, hX, hS⟩)
theorem zz_imul {x z : Int32} (hd : decode y.2.1 pc = .ok (.imul, 1)) (kk : zz_G y d k (pc + 1) ls (.int (x * z) :: st) M I J Q) : zz_G y d k pc ls (.int z :: .int x :: st) M I J Q := by
  intro p l e R t0 m args below meth c Z base b D cT H locs arr hh
  obtain ⟨hC, hZ, hk, hL, hW, hX, hS⟩ := hh
  exact lv_imul hC.1 hC.2.1 hd (kk p l e R t0 m args below meth c Z base b D cT H locs arr ⟨hC, hZ, hk, hL, hW, hX, hS⟩)
theorem zz_iand {x z : Int32} (hd : decode y.2.1 pc = .ok (.iand, 1)) (kk : zz_G y d k (pc + 1) ls (.int (x &&& z) :: st) M I J Q) : zz_G y d k pc ls (.int z :: .int x :: st) M I J Q := by
  intro p l e R t0 m args below meth c Z base b D cT H locs arr hh
  obtain ⟨hC, hZ, hk, hL, hW, hX, hS⟩ := hh
  exact lv_iand hC.1 hC.2.1 hd (kk p l e R t0 m args below meth c Z base b D cT H locs arr ⟨hC, hZ, hk, hL, hW, hX, hS⟩)
theorem zz_ior {x z : Int32} (hd : decode y.2.1 pc = .ok (.ior, 1)) (kk : zz_G y d k (pc + 1) ls (.int (x ||| z) :: st) M I J Q) : zz_G y d k pc ls (.int z :: .int x :: st) M I J Q := by
  intro p l e R t0 m args below meth c Z base b D cT H locs arr hh
  obtain ⟨hC, hZ, hk, hL, hW, hX, hS⟩ := hh
  exact lv_ior hC.1 hC.2.1 hd (kk p l e R t0 m args below meth c Z base b D cT H locs arr ⟨hC, hZ, hk, hL, hW, hX, hS⟩)
theorem zz_ixor {x z : Int32} (hd : decode y.2.1 pc = .ok (.ixor, 1)) (kk : zz_G y d k (pc + 1) ls (.int (x ^^^ z) :: st) M I J Q) : zz_G y d k pc ls (.int z :: .int x :: st) M I J Q := by
  intro p l e R t0 m args below meth c Z base b D cT H locs arr hh
  obtain ⟨hC, hZ, hk, hL, hW, hX, hS⟩ := hh
  exact lv_ixor hC.1 hC.2.1 hd (kk p l e R t0 m args below meth c Z base b D cT H locs arr ⟨hC, hZ, hk, hL, hW, hX, hS⟩)
theorem zz_ishl {x z : Int32} (hd : decode y.2.1 pc = .ok (.ishl, 1)) (kk : zz_G y d k (pc + 1) ls (.int (x <<< (z &&& 31)) :: st) M I J Q) : zz_G y d k pc ls (.int z :: .int x :: st) M I J Q := by
  intro p l e R t0 m args below meth c Z base b D cT H locs arr hh
  obtain ⟨hC, hZ, hk, hL, hW, hX, hS⟩ := hh
  exact lv_ishl hC.1 hC.2.1 hd (kk p l e R t0 m args below meth c Z base b D cT H locs arr ⟨hC, hZ, hk, hL, hW, hX, hS⟩)
theorem zz_ishr {x z : Int32} (hd : decode y.2.1 pc = .ok (.ishr, 1)) (kk : zz_G y d k (pc + 1) ls (.int (x >>> (z &&& 31)) :: st) M I J Q) : zz_G y d k pc ls (.int z :: .int x :: st) M I J Q := by
  intro p l e R t0 m args below meth c Z base b D cT H locs arr hh
  obtain ⟨hC, hZ, hk, hL, hW, hX, hS⟩ := hh
  exact lv_ishr hC.1 hC.2.1 hd (kk p l e R t0 m args below meth c Z base b D cT H locs arr ⟨hC, hZ, hk, hL, hW, hX, hS⟩)
theorem zz_idiv {x z : Int32} (hne : ¬ z = 0) (hd : decode y.2.1 pc = .ok (.idiv, 1)) (kk : zz_G y d k (pc + 1) ls (.int (x / z) :: st) M I J Q) : zz_G y d k pc ls (.int z :: .int x :: st) M I J Q := by
  intro p l e R t0 m args below meth c Z base b D cT H locs arr hh
  obtain ⟨hC, hZ, hk, hL, hW, hX, hS⟩ := hh
  exact lv_idiv hC.1 hC.2.1 hd hne (kk p l e R t0 m args below meth c Z base b D cT H locs arr ⟨hC, hZ, hk, hL, hW, hX, hS⟩)
theorem zz_irem {x z : Int32} (hne : ¬ z = 0) (hd : decode y.2.1 pc = .ok (.irem, 1)) (kk : zz_G y d k (pc + 1) ls (.int (jv_rem x z) :: st) M I J Q) : zz_G y d k pc ls (.int z :: .int x :: st) M I J Q := by
  intro p l e R t0 m args below meth c Z base b D cT H locs arr hh
  obtain ⟨hC, hZ, hk, hL, hW, hX, hS⟩ := hh
  exact lv_irem hC.1 hC.2.1 hd hne (kk p l e R t0 m args below meth c Z base b D cT H locs arr ⟨hC, hZ, hk, hL, hW, hX, hS⟩)
theorem zz_ladd {x z : Int64} (hd : decode y.2.1 pc = .ok (.ladd, 1)) (kk : zz_G y d k (pc + 1) ls (.long (x + z) :: st) M I J Q) : zz_G y d k pc ls (.long z :: .long x :: st) M I J Q := by
  intro p l e R t0 m args below meth c Z base b D cT H locs arr hh
  obtain ⟨hC, hZ, hk, hL, hW, hX, hS⟩ := hh
  exact lv_ladd hC.1 hC.2.1 hd (kk p l e R t0 m args below meth c Z base b D cT H locs arr ⟨hC, hZ, hk, hL, hW, hX, hS⟩)
theorem zz_lsub {x z : Int64} (hd : decode y.2.1 pc = .ok (.lsub, 1)) (kk : zz_G y d k (pc + 1) ls (.long (x - z) :: st) M I J Q) : zz_G y d k pc ls (.long z :: .long x :: st) M I J Q := by
  intro p l e R t0 m args below meth c Z base b D cT H locs arr hh
  obtain ⟨hC, hZ, hk, hL, hW, hX, hS⟩ := hh
  exact lv_lsub hC.1 hC.2.1 hd (kk p l e R t0 m args below meth c Z base b D cT H locs arr ⟨hC, hZ, hk, hL, hW, hX, hS⟩)
theorem zz_lmul {x z : Int64} (hd : decode y.2.1 pc = .ok (.lmul, 1)) (kk : zz_G y d k (pc + 1) ls (.long (x * z) :: st) M I J Q) : zz_G y d k pc ls (.long z :: .long x :: st) M I J Q := by
  intro p l e R t0 m args below meth c Z base b D cT H locs arr hh
  obtain ⟨hC, hZ, hk, hL, hW, hX, hS⟩ := hh
  exact lv_lmul hC.1 hC.2.1 hd (kk p l e R t0 m args below meth c Z base b D cT H locs arr ⟨hC, hZ, hk, hL, hW, hX, hS⟩)
theorem zz_land {x z : Int64} (hd : decode y.2.1 pc = .ok (.land, 1)) (kk : zz_G y d k (pc + 1) ls (.long (x &&& z) :: st) M I J Q) : zz_G y d k pc ls (.long z :: .long x :: st) M I J Q := by
  intro p l e R t0 m args below meth c Z base b D cT H locs arr hh
  obtain ⟨hC, hZ, hk, hL, hW, hX, hS⟩ := hh
  exact lv_land hC.1 hC.2.1 hd (kk p l e R t0 m args below meth c Z base b D cT H locs arr ⟨hC, hZ, hk, hL, hW, hX, hS⟩)
theorem zz_lor {x z : Int64} (hd : decode y.2.1 pc = .ok (.lor, 1)) (kk : zz_G y d k (pc + 1) ls (.long (x ||| z) :: st) M I J Q) : zz_G y d k pc ls (.long z :: .long x :: st) M I J Q := by
  intro p l e R t0 m args below meth c Z base b D cT H locs arr hh
  obtain ⟨hC, hZ, hk, hL, hW, hX, hS⟩ := hh
  exact lv_lor hC.1 hC.2.1 hd (kk p l e R t0 m args below meth c Z base b D cT H locs arr ⟨hC, hZ, hk, hL, hW, hX, hS⟩)
theorem zz_lxor {x z : Int64} (hd : decode y.2.1 pc = .ok (.lxor, 1)) (kk : zz_G y d k (pc + 1) ls (.long (x ^^^ z) :: st) M I J Q) : zz_G y d k pc ls (.long z :: .long x :: st) M I J Q := by
  intro p l e R t0 m args below meth c Z base b D cT H locs arr hh
  obtain ⟨hC, hZ, hk, hL, hW, hX, hS⟩ := hh
  exact lv_lxor hC.1 hC.2.1 hd (kk p l e R t0 m args below meth c Z base b D cT H locs arr ⟨hC, hZ, hk, hL, hW, hX, hS⟩)
theorem zz_ldiv {x z : Int64} (hne : ¬ z = 0) (hd : decode y.2.1 pc = .ok (.ldiv, 1)) (kk : zz_G y d k (pc + 1) ls (.long (x / z) :: st) M I J Q) : zz_G y d k pc ls (.long z :: .long x :: st) M I J Q := by
  intro p l e R t0 m args below meth c Z base b D cT H locs arr hh
  obtain ⟨hC, hZ, hk, hL, hW, hX, hS⟩ := hh
  exact lv_ldiv hC.1 hC.2.1 hd hne (kk p l e R t0 m args below meth c Z base b D cT H locs arr ⟨hC, hZ, hk, hL, hW, hX, hS⟩)
theorem zz_lrem {x z : Int64} (hne : ¬ z = 0) (hd : decode y.2.1 pc = .ok (.lrem, 1)) (kk : zz_G y d k (pc + 1) ls (.long (jv_lrem x z) :: st) M I J Q) : zz_G y d k pc ls (.long z :: .long x :: st) M I J Q := by
  intro p l e R t0 m args below meth c Z base b D cT H locs arr hh
  obtain ⟨hC, hZ, hk, hL, hW, hX, hS⟩ := hh
  exact lv_lrem hC.1 hC.2.1 hd hne (kk p l e R t0 m args below meth c Z base b D cT H locs arr ⟨hC, hZ, hk, hL, hW, hX, hS⟩)
theorem zz_lneg {x : Int64} (hd : decode y.2.1 pc = .ok (.lneg, 1)) (kk : zz_G y d k (pc + 1) ls (.long (-x) :: st) M I J Q) : zz_G y d k pc ls (.long x :: st) M I J Q := by
  intro p l e R t0 m args below meth c Z base b D cT H locs arr hh
  obtain ⟨hC, hZ, hk, hL, hW, hX, hS⟩ := hh
  exact lv_lneg hC.1 hC.2.1 hd (kk p l e R t0 m args below meth c Z base b D cT H locs arr ⟨hC, hZ, hk, hL, hW, hX, hS⟩)
/-- the shifts to the right without sign, as the machine has them -/
theorem zz_iushr {x z : Int32} (hd : decode y.2.1 pc = .ok (.iushr, 1)) (kk : zz_G y d k (pc + 1) ls (.int (jv_ushr x z) :: st) M I J Q) : zz_G y d k pc ls (.int z :: .int x :: st) M I J Q := by
  intro p l e R t0 m args below meth c Z base b D cT H locs arr hh
  obtain ⟨hC, hZ, hk, hL, hW, hX, hS⟩ := hh
  exact lv_iushr hC.1 hC.2.1 hd rfl (kk p l e R t0 m args below meth c Z base b D cT H locs arr ⟨hC, hZ, hk, hL, hW, hX, hS⟩)
theorem zz_lushr {x : Int64} {z : Int32} (hd : decode y.2.1 pc = .ok (.lushr, 1)) (kk : zz_G y d k (pc + 1) ls (.long (jv_lushr x z) :: st) M I J Q) : zz_G y d k pc ls (.int z :: .long x :: st) M I J Q := by
  intro p l e R t0 m args below meth c Z base b D cT H locs arr hh
  obtain ⟨hC, hZ, hk, hL, hW, hX, hS⟩ := hh
  exact lv_lushr hC.1 hC.2.1 hd rfl (kk p l e R t0 m args below meth c Z base b D cT H locs arr ⟨hC, hZ, hk, hL, hW, hX, hS⟩)
theorem zz_lshl {x : Int64} {z : Int32} (hd : decode y.2.1 pc = .ok (.lshl, 1)) (kk : zz_G y d k (pc + 1) ls (.long (jv_lshl x z) :: st) M I J Q) : zz_G y d k pc ls (.int z :: .long x :: st) M I J Q := by
  intro p l e R t0 m args below meth c Z base b D cT H locs arr hh
  obtain ⟨hC, hZ, hk, hL, hW, hX, hS⟩ := hh
  exact lv_lshl hC.1 hC.2.1 hd rfl (kk p l e R t0 m args below meth c Z base b D cT H locs arr ⟨hC, hZ, hk, hL, hW, hX, hS⟩)
theorem zz_lshr {x : Int64} {z : Int32} (hd : decode y.2.1 pc = .ok (.lshr, 1)) (kk : zz_G y d k (pc + 1) ls (.long (jv_lshr x z) :: st) M I J Q) : zz_G y d k pc ls (.int z :: .long x :: st) M I J Q := by
  intro p l e R t0 m args below meth c Z base b D cT H locs arr hh
  obtain ⟨hC, hZ, hk, hL, hW, hX, hS⟩ := hh
  exact lv_lshr hC.1 hC.2.1 hd rfl (kk p l e R t0 m args below meth c Z base b D cT H locs arr ⟨hC, hZ, hk, hL, hW, hX, hS⟩)
theorem zz_i2l {x : Int32} (hd : decode y.2.1 pc = .ok (.i2l, 1)) (kk : zz_G y d k (pc + 1) ls (.long x.toInt64 :: st) M I J Q) : zz_G y d k pc ls (.int x :: st) M I J Q := by
  intro p l e R t0 m args below meth c Z base b D cT H locs arr hh
  obtain ⟨hC, hZ, hk, hL, hW, hX, hS⟩ := hh
  exact lv_i2l hC.1 hC.2.1 hd rfl (kk p l e R t0 m args below meth c Z base b D cT H locs arr ⟨hC, hZ, hk, hL, hW, hX, hS⟩)
theorem zz_l2i {x : Int64} (hd : decode y.2.1 pc = .ok (.l2i, 1)) (kk : zz_G y d k (pc + 1) ls (.int x.toInt32 :: st) M I J Q) : zz_G y d k pc ls (.long x :: st) M I J Q := by
  intro p l e R t0 m args below meth c Z base b D cT H locs arr hh
  obtain ⟨hC, hZ, hk, hL, hW, hX, hS⟩ := hh
  exact lv_l2i hC.1 hC.2.1 hd rfl (kk p l e R t0 m args below meth c Z base b D cT H locs arr ⟨hC, hZ, hk, hL, hW, hX, hS⟩)
theorem zz_i2b {x : Int32} (hd : decode y.2.1 pc = .ok (.i2b, 1)) (kk : zz_G y d k (pc + 1) ls (.int (jv_b x) :: st) M I J Q) : zz_G y d k pc ls (.int x :: st) M I J Q := by
  intro p l e R t0 m args below meth c Z base b D cT H locs arr hh
  obtain ⟨hC, hZ, hk, hL, hW, hX, hS⟩ := hh
  exact lv_i2b hC.1 hC.2.1 hd rfl (kk p l e R t0 m args below meth c Z base b D cT H locs arr ⟨hC, hZ, hk, hL, hW, hX, hS⟩)
theorem zz_lcmp {x z : Int64} (hd : decode y.2.1 pc = .ok (.lcmp, 1)) (kk : zz_G y d k (pc + 1) ls (.int (lg_cmp x z) :: st) M I J Q) : zz_G y d k pc ls (.long z :: .long x :: st) M I J Q := by
  intro p l e R t0 m args below meth c Z base b D cT H locs arr hh
  obtain ⟨hC, hZ, hk, hL, hW, hX, hS⟩ := hh
  exact W.lcmp hC.1 hC.2.1 hd (kk p l e R t0 m args below meth c Z base b D cT H locs arr ⟨hC, hZ, hk, hL, hW, hX, hS⟩)
theorem zz_dup {v : Value} (hv : v.category = 1) (hd : decode y.2.1 pc = .ok (.dup, 1)) (kk : zz_G y d k (pc + 1) ls (v :: v :: st) M I J Q) : zz_G y d k pc ls (v :: st) M I J Q := by
  intro p l e R t0 m args below meth c Z base b D cT H locs arr hh
  obtain ⟨hC, hZ, hk, hL, hW, hX, hS⟩ := hh
  exact lv_dup hC.1 hC.2.1 hd ((zz_tr_cat base b v).trans hv) (kk p l e R t0 m args below meth c Z base b D cT H locs arr ⟨hC, hZ, hk, hL, hW, hX, hS⟩)
theorem zz_pop {v : Value} (hv : v.category = 1) (hd : decode y.2.1 pc = .ok (.pop, 1)) (kk : zz_G y d k (pc + 1) ls (st) M I J Q) : zz_G y d k pc ls (v :: st) M I J Q := by
  intro p l e R t0 m args below meth c Z base b D cT H locs arr hh
  obtain ⟨hC, hZ, hk, hL, hW, hX, hS⟩ := hh
  exact lv_pop hC.1 hC.2.1 hd ((zz_tr_cat base b v).trans hv) (kk p l e R t0 m args below meth c Z base b D cT H locs arr ⟨hC, hZ, hk, hL, hW, hX, hS⟩)
theorem zz_dup2 {v w : Value} (hv : v.category = 1) (hw : w.category = 1) (hd : decode y.2.1 pc = .ok (.dup2, 1)) (kk : zz_G y d k (pc + 1) ls (v :: w :: v :: w :: st) M I J Q) : zz_G y d k pc ls (v :: w :: st) M I J Q := by
  intro p l e R t0 m args below meth c Z base b D cT H locs arr hh
  obtain ⟨hC, hZ, hk, hL, hW, hX, hS⟩ := hh
  exact lv_dup2_11 hC.1 hC.2.1 hd ((zz_tr_cat base b v).trans hv) ((zz_tr_cat base b w).trans hw) (kk p l e R t0 m args below meth c Z base b D cT H locs arr ⟨hC, hZ, hk, hL, hW, hX, hS⟩)
theorem zz_dup2l {v : Value} (hv : v.category = 2) (hd : decode y.2.1 pc = .ok (.dup2, 1)) (kk : zz_G y d k (pc + 1) ls (v :: v :: st) M I J Q) : zz_G y d k pc ls (v :: st) M I J Q := by
  intro p l e R t0 m args below meth c Z base b D cT H locs arr hh
  obtain ⟨hC, hZ, hk, hL, hW, hX, hS⟩ := hh
  exact lv_dup2_2 hC.1 hC.2.1 hd ((zz_tr_cat base b v).trans hv) (kk p l e R t0 m args below meth c Z base b D cT H locs arr ⟨hC, hZ, hk, hL, hW, hX, hS⟩)
theorem zz_if_eq {x : Int32} {off : Int} {tgt : Nat} (hd : decode y.2.1 pc = .ok (.ifCond .eq off, 3)) (ht : (pc : Int) + off = (tgt : Int)) (kt : x = 0 → zz_G y d k tgt ls st M I J Q) (kf : ¬ x = 0 → zz_G y d k (pc + 3) ls st M I J Q) : zz_G y d k pc ls (.int x :: st) M I J Q := by
  intro p l e R t0 m args below meth c Z base b D cT H locs arr hh
  obtain ⟨hC, hZ, hk, hL, hW, hX, hS⟩ := hh
  exact lv_if_eq hC.1 hC.2.1 hd ht (fun h => kt h p l e R t0 m args below meth c Z base b D cT H locs arr ⟨hC, hZ, hk, hL, hW, hX, hS⟩) (fun h => kf h p l e R t0 m args below meth c Z base b D cT H locs arr ⟨hC, hZ, hk, hL, hW, hX, hS⟩)
theorem zz_icmp_eq {x z : Int32} {off : Int} {tgt : Nat} (hd : decode y.2.1 pc = .ok (.if_icmp .eq off, 3)) (ht : (pc : Int) + off = (tgt : Int)) (kt : x = z → zz_G y d k tgt ls st M I J Q) (kf : ¬ x = z → zz_G y d k (pc + 3) ls st M I J Q) : zz_G y d k pc ls (.int z :: .int x :: st) M I J Q := by
  intro p l e R t0 m args below meth c Z base b D cT H locs arr hh
  obtain ⟨hC, hZ, hk, hL, hW, hX, hS⟩ := hh
  exact lv_icmp_eq hC.1 hC.2.1 hd ht (fun h => kt h p l e R t0 m args below meth c Z base b D cT H locs arr ⟨hC, hZ, hk, hL, hW, hX, hS⟩) (fun h => kf h p l e R t0 m args below meth c Z base b D cT H locs arr ⟨hC, hZ, hk, hL, hW, hX, hS⟩)
theorem zz_if_ne {x : Int32} {off : Int} {tgt : Nat} (hd : decode y.2.1 pc = .ok (.ifCond .ne off, 3)) (ht : (pc : Int) + off = (tgt : Int)) (kt : ¬ x = 0 → zz_G y d k tgt ls st M I J Q) (kf : x = 0 → zz_G y d k (pc + 3) ls st M I J Q) : zz_G y d k pc ls (.int x :: st) M I J Q := by
  intro p l e R t0 m args below meth c Z base b D cT H locs arr hh
  obtain ⟨hC, hZ, hk, hL, hW, hX, hS⟩ := hh
  exact lv_if_ne hC.1 hC.2.1 hd ht (fun h => kt h p l e R t0 m args below meth c Z base b D cT H locs arr ⟨hC, hZ, hk, hL, hW, hX, hS⟩) (fun h => kf h p l e R t0 m args below meth c Z base b D cT H locs arr ⟨hC, hZ, hk, hL, hW, hX, hS⟩)
theorem zz_icmp_ne {x z : Int32} {off : Int} {tgt : Nat} (hd : decode y.2.1 pc = .ok (.if_icmp .ne off, 3)) (ht : (pc : Int) + off = (tgt : Int)) (kt : ¬ x = z → zz_G y d k tgt ls st M I J Q) (kf : x = z → zz_G y d k (pc + 3) ls st M I J Q) : zz_G y d k pc ls (.int z :: .int x :: st) M I J Q := by
  intro p l e R t0 m args below meth c Z base b D cT H locs arr hh
  obtain ⟨hC, hZ, hk, hL, hW, hX, hS⟩ := hh
  exact lv_icmp_ne hC.1 hC.2.1 hd ht (fun h => kt h p l e R t0 m args below meth c Z base b D cT H locs arr ⟨hC, hZ, hk, hL, hW, hX, hS⟩) (fun h => kf h p l e R t0 m args below meth c Z base b D cT H locs arr ⟨hC, hZ, hk, hL, hW, hX, hS⟩)
theorem zz_if_lt {x : Int32} {off : Int} {tgt : Nat} (hd : decode y.2.1 pc = .ok (.ifCond .lt off, 3)) (ht : (pc : Int) + off = (tgt : Int)) (kt : x < 0 → zz_G y d k tgt ls st M I J Q) (kf : ¬ x < 0 → zz_G y d k (pc + 3) ls st M I J Q) : zz_G y d k pc ls (.int x :: st) M I J Q := by
  intro p l e R t0 m args below meth c Z base b D cT H locs arr hh
  obtain ⟨hC, hZ, hk, hL, hW, hX, hS⟩ := hh
  exact lv_if_lt hC.1 hC.2.1 hd ht (fun h => kt h p l e R t0 m args below meth c Z base b D cT H locs arr ⟨hC, hZ, hk, hL, hW, hX, hS⟩) (fun h => kf h p l e R t0 m args below meth c Z base b D cT H locs arr ⟨hC, hZ, hk, hL, hW, hX, hS⟩)
theorem zz_icmp_lt {x z : Int32} {off : Int} {tgt : Nat} (hd : decode y.2.1 pc = .ok (.if_icmp .lt off, 3)) (ht : (pc : Int) + off = (tgt : Int)) (kt : x < z → zz_G y d k tgt ls st M I J Q) (kf : ¬ x < z → zz_G y d k (pc + 3) ls st M I J Q) : zz_G y d k pc ls (.int z :: .int x :: st) M I J Q := by
  intro p l e R t0 m args below meth c Z base b D cT H locs arr hh
  obtain ⟨hC, hZ, hk, hL, hW, hX, hS⟩ := hh
  exact lv_icmp_lt hC.1 hC.2.1 hd ht (fun h => kt h p l e R t0 m args below meth c Z base b D cT H locs arr ⟨hC, hZ, hk, hL, hW, hX, hS⟩) (fun h => kf h p l e R t0 m args below meth c Z base b D cT H locs arr ⟨hC, hZ, hk, hL, hW, hX, hS⟩)
theorem zz_if_ge {x : Int32} {off : Int} {tgt : Nat} (hd : decode y.2.1 pc = .ok (.ifCond .ge off, 3)) (ht : (pc : Int) + off = (tgt : Int)) (kt : 0 ≤ x → zz_G y d k tgt ls st M I J Q) (kf : ¬ 0 ≤ x → zz_G y d k (pc + 3) ls st M I J Q) : zz_G y d k pc ls (.int x :: st) M I J Q := by
  intro p l e R t0 m args below meth c Z base b D cT H locs arr hh
  obtain ⟨hC, hZ, hk, hL, hW, hX, hS⟩ := hh
  exact lv_if_ge hC.1 hC.2.1 hd ht (fun h => kt h p l e R t0 m args below meth c Z base b D cT H locs arr ⟨hC, hZ, hk, hL, hW, hX, hS⟩) (fun h => kf h p l e R t0 m args below meth c Z base b D cT H locs arr ⟨hC, hZ, hk, hL, hW, hX, hS⟩)
theorem zz_icmp_ge {x z : Int32} {off : Int} {tgt : Nat} (hd : decode y.2.1 pc = .ok (.if_icmp .ge off, 3)) (ht : (pc : Int) + off = (tgt : Int)) (kt : z ≤ x → zz_G y d k tgt ls st M I J Q) (kf : ¬ z ≤ x → zz_G y d k (pc + 3) ls st M I J Q) : zz_G y d k pc ls (.int z :: .int x :: st) M I J Q := by
  intro p l e R t0 m args below meth c Z base b D cT H locs arr hh
  obtain ⟨hC, hZ, hk, hL, hW, hX, hS⟩ := hh
  exact lv_icmp_ge hC.1 hC.2.1 hd ht (fun h => kt h p l e R t0 m args below meth c Z base b D cT H locs arr ⟨hC, hZ, hk, hL, hW, hX, hS⟩) (fun h => kf h p l e R t0 m args below meth c Z base b D cT H locs arr ⟨hC, hZ, hk, hL, hW, hX, hS⟩)
theorem zz_if_gt {x : Int32} {off : Int} {tgt : Nat} (hd : decode y.2.1 pc = .ok (.ifCond .gt off, 3)) (ht : (pc : Int) + off = (tgt : Int)) (kt : 0 < x → zz_G y d k tgt ls st M I J Q) (kf : ¬ 0 < x → zz_G y d k (pc + 3) ls st M I J Q) : zz_G y d k pc ls (.int x :: st) M I J Q := by
  intro p l e R t0 m args below meth c Z base b D cT H locs arr hh
  obtain ⟨hC, hZ, hk, hL, hW, hX, hS⟩ := hh
  exact lv_if_gt hC.1 hC.2.1 hd ht (fun h => kt h p l e R t0 m args below meth c Z base b D cT H locs arr ⟨hC, hZ, hk, hL, hW, hX, hS⟩) (fun h => kf h p l e R t0 m args below meth c Z base b D cT H locs arr ⟨hC, hZ, hk, hL, hW, hX, hS⟩)
theorem zz_icmp_gt {x z : Int32} {off : Int} {tgt : Nat} (hd : decode y.2.1 pc = .ok (.if_icmp .gt off, 3)) (ht : (pc : Int) + off = (tgt : Int)) (kt : z < x → zz_G y d k tgt ls st M I J Q) (kf : ¬ z < x → zz_G y d k (pc + 3) ls st M I J Q) : zz_G y d k pc ls (.int z :: .int x :: st) M I J Q := by
  intro p l e R t0 m args below meth c Z base b D cT H locs arr hh
  obtain ⟨hC, hZ, hk, hL, hW, hX, hS⟩ := hh
  exact lv_icmp_gt hC.1 hC.2.1 hd ht (fun h => kt h p l e R t0 m args below meth c Z base b D cT H locs arr ⟨hC, hZ, hk, hL, hW, hX, hS⟩) (fun h => kf h p l e R t0 m args below meth c Z base b D cT H locs arr ⟨hC, hZ, hk, hL, hW, hX, hS⟩)
theorem zz_if_le {x : Int32} {off : Int} {tgt : Nat} (hd : decode y.2.1 pc = .ok (.ifCond .le off, 3)) (ht : (pc : Int) + off = (tgt : Int)) (kt : x ≤ 0 → zz_G y d k tgt ls st M I J Q) (kf : ¬ x ≤ 0 → zz_G y d k (pc + 3) ls st M I J Q) : zz_G y d k pc ls (.int x :: st) M I J Q := by
  intro p l e R t0 m args below meth c Z base b D cT H locs arr hh
  obtain ⟨hC, hZ, hk, hL, hW, hX, hS⟩ := hh
  exact lv_if_le hC.1 hC.2.1 hd ht (fun h => kt h p l e R t0 m args below meth c Z base b D cT H locs arr ⟨hC, hZ, hk, hL, hW, hX, hS⟩) (fun h => kf h p l e R t0 m args below meth c Z base b D cT H locs arr ⟨hC, hZ, hk, hL, hW, hX, hS⟩)
theorem zz_icmp_le {x z : Int32} {off : Int} {tgt : Nat} (hd : decode y.2.1 pc = .ok (.if_icmp .le off, 3)) (ht : (pc : Int) + off = (tgt : Int)) (kt : x ≤ z → zz_G y d k tgt ls st M I J Q) (kf : ¬ x ≤ z → zz_G y d k (pc + 3) ls st M I J Q) : zz_G y d k pc ls (.int z :: .int x :: st) M I J Q := by
  intro p l e R t0 m args below meth c Z base b D cT H locs arr hh
  obtain ⟨hC, hZ, hk, hL, hW, hX, hS⟩ := hh
  exact lv_icmp_le hC.1 hC.2.1 hd ht (fun h => kt h p l e R t0 m args below meth c Z base b D cT H locs arr ⟨hC, hZ, hk, hL, hW, hX, hS⟩) (fun h => kf h p l e R t0 m args below meth c Z base b D cT H locs arr ⟨hC, hZ, hk, hL, hW, hX, hS⟩)
theorem zz_goto {off : Int} {tgt : Nat} (hd : decode y.2.1 pc = .ok (.goto off, 3)) (ht : (pc : Int) + off = (tgt : Int)) (kk : zz_G y d k (tgt) ls st M I J Q) : zz_G y d k pc ls (st) M I J Q := by
  intro p l e R t0 m args below meth c Z base b D cT H locs arr hh
  obtain ⟨hC, hZ, hk, hL, hW, hX, hS⟩ := hh
  exact lv_goto hC.1 hC.2.1 hd ht (kk p l e R t0 m args below meth c Z base b D cT H locs arr ⟨hC, hZ, hk, hL, hW, hX, hS⟩)
theorem zz_ifnonnull {x : Nat} {off : Int} {tgt : Nat} (hd : decode y.2.1 pc = .ok (.ifnonnull off, 3)) (ht : (pc : Int) + off = (tgt : Int)) (kk : zz_G y d k (tgt) ls st M I J Q) : zz_G y d k pc ls (.ref x :: st) M I J Q := by
  intro p l e R t0 m args below meth c Z base b D cT H locs arr hh
  obtain ⟨hC, hZ, hk, hL, hW, hX, hS⟩ := hh
  exact lv_ifnonnull hC.1 hC.2.1 hd ht (kk p l e R t0 m args below meth c Z base b D cT H locs arr ⟨hC, hZ, hk, hL, hW, hX, hS⟩)
theorem zz_ifnull {x : Nat} {off : Int} (hd : decode y.2.1 pc = .ok (.ifnull off, 3)) (kk : zz_G y d k (pc + 3) ls st M I J Q) : zz_G y d k pc ls (.ref x :: st) M I J Q := by
  intro p l e R t0 m args below meth c Z base b D cT H locs arr hh
  obtain ⟨hC, hZ, hk, hL, hW, hX, hS⟩ := hh
  exact lv_ifnull hC.1 hC.2.1 hd (kk p l e R t0 m args below meth c Z base b D cT H locs arr ⟨hC, hZ, hk, hL, hW, hX, hS⟩)
theorem zz_ifnullN {off : Int} {tgt : Nat} (hd : decode y.2.1 pc = .ok (.ifnull off, 3)) (ht : (pc : Int) + off = (tgt : Int)) (kk : zz_G y d k (tgt) ls st M I J Q) : zz_G y d k pc ls (.null :: st) M I J Q := by
  intro p l e R t0 m args below meth c Z base b D cT H locs arr hh
  obtain ⟨hC, hZ, hk, hL, hW, hX, hS⟩ := hh
  exact lv_ifnullN hC.1 hC.2.1 hd ht (kk p l e R t0 m args below meth c Z base b D cT H locs arr ⟨hC, hZ, hk, hL, hW, hX, hS⟩)
theorem zz_ifnonnullN {off : Int} (hd : decode y.2.1 pc = .ok (.ifnonnull off, 3)) (kk : zz_G y d k (pc + 3) ls st M I J Q) : zz_G y d k pc ls (.null :: st) M I J Q := by
  intro p l e R t0 m args below meth c Z base b D cT H locs arr hh
  obtain ⟨hC, hZ, hk, hL, hW, hX, hS⟩ := hh
  exact lv_ifnonnullN hC.1 hC.2.1 hd (kk p l e R t0 m args below meth c Z base b D cT H locs arr ⟨hC, hZ, hk, hL, hW, hX, hS⟩)
theorem zz_tabOut {x : Int32} {dflt lo hi : Int} {offs : Array Int} {len tgt : Nat} (hd : decode y.2.1 pc = .ok (.tableswitch dflt lo hi offs, len)) (h : x.toInt < lo ∨ hi < x.toInt) (ht : (pc : Int) + dflt = (tgt : Int)) (kk : zz_G y d k tgt ls st M I J Q) : zz_G y d k pc ls (.int x :: st) M I J Q := by
  intro p l e R t0 m args below meth c Z base b D cT H locs arr hh
  obtain ⟨hC, hZ, hk, hL, hW, hX, hS⟩ := hh
  exact lv_tableOut hC.1 hC.2.1 hd h ht (kk p l e R t0 m args below meth c Z base b D cT H locs arr ⟨hC, hZ, hk, hL, hW, hX, hS⟩)
theorem zz_tabIn {x : Int32} {dflt lo hi off : Int} {offs : Array Int} {len tgt : Nat} (hd : decode y.2.1 pc = .ok (.tableswitch dflt lo hi offs, len)) (h1 : ¬ x.toInt < lo) (h2 : ¬ hi < x.toInt) (ho : offs[(x.toInt - lo).toNat]? = some off) (ht : (pc : Int) + off = (tgt : Int)) (kk : zz_G y d k tgt ls st M I J Q) : zz_G y d k pc ls (.int x :: st) M I J Q := by
  intro p l e R t0 m args below meth c Z base b D cT H locs arr hh
  obtain ⟨hC, hZ, hk, hL, hW, hX, hS⟩ := hh
  exact lv_tableIn hC.1 hC.2.1 hd h1 h2 ho ht (kk p l e R t0 m args below meth c Z base b D cT H locs arr ⟨hC, hZ, hk, hL, hW, hX, hS⟩)
theorem zz_ireturn {x : Int32} {ty : FieldType} (hd : decode y.2.1 pc = .ok (.ireturn, 1)) (hr : y.2.2.2.1 = some ty) (hn : narrow ty (.int x) = .int x) (kk : Q (some (.int x)) M I J) : zz_G y d k pc ls [.int x] M I J Q := by
  intro p l e R t0 m args below meth c Z base b D cT H locs arr hh
  obtain ⟨hC, hZ, hk, hL, hW, hX, hS⟩ := hh
  exact hZ k pc H locs arr .ireturn (some (.int x)) M I J hd (Or.inl ⟨rfl, x, ty, rfl, hr, hn⟩) hk hW hX hS kk
theorem zz_lreturn {x : Int64} (hd : decode y.2.1 pc = .ok (.lreturn, 1)) (hr : y.2.2.2.1 = some .long) (kk : Q (some (.long x)) M I J) : zz_G y d k pc ls [.long x] M I J Q := by
  intro p l e R t0 m args below meth c Z base b D cT H locs arr hh
  obtain ⟨hC, hZ, hk, hL, hW, hX, hS⟩ := hh
  exact hZ k pc H locs arr .lreturn (some (.long x)) M I J hd (Or.inr (Or.inl ⟨rfl, x, rfl, hr⟩)) hk hW hX hS kk
theorem zz_areturn {x : Nat} {n : String} (hd : decode y.2.1 pc = .ok (.areturn, 1)) (hr : y.2.2.2.1 = some (.object n)) (kk : Q (some (.ref x)) M I J) : zz_G y d k pc ls [.ref x] M I J Q := by
  intro p l e R t0 m args below meth c Z base b D cT H locs arr hh
  obtain ⟨hC, hZ, hk, hL, hW, hX, hS⟩ := hh
  exact hZ k pc H locs arr .areturn (some (.ref x)) M I J hd (Or.inr (Or.inr (Or.inl ⟨rfl, n, hr, Or.inr ⟨x, rfl⟩⟩))) hk hW hX hS kk
theorem zz_nreturn {n : String} (hd : decode y.2.1 pc = .ok (.areturn, 1)) (hr : y.2.2.2.1 = some (.object n)) (kk : Q (some .null) M I J) : zz_G y d k pc ls [.null] M I J Q := by
  intro p l e R t0 m args below meth c Z base b D cT H locs arr hh
  obtain ⟨hC, hZ, hk, hL, hW, hX, hS⟩ := hh
  exact hZ k pc H locs arr .areturn (some .null) M I J hd (Or.inr (Or.inr (Or.inl ⟨rfl, n, hr, Or.inl rfl⟩))) hk hW hX hS kk
theorem zz_return (hd : decode y.2.1 pc = .ok (.return_, 1)) (hr : y.2.2.2.1 = none) (kk : Q none M I J) : zz_G y d k pc ls [] M I J Q := by
  intro p l e R t0 m args below meth c Z base b D cT H locs arr hh
  obtain ⟨hC, hZ, hk, hL, hW, hX, hS⟩ := hh
  exact hZ k pc H locs arr .return_ none M I J hd (Or.inr (Or.inr (Or.inr ⟨rfl, rfl, hr⟩))) hk hW hX hS kk
end ZR
