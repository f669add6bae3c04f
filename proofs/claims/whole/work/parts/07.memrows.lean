/-! ===== rows: fields, arrays, making, calls ===== -/
theorem zz_upd_ne {f : Nat → Int32} {k j : Nat} {x : Int32} (h : j ≠ k) : upd f k x j = f j := if_neg h
theorem zz_updL_ne {f : Nat → Int64} {k j : Nat} {x : Int64} (h : j ≠ k) : vp_updL f k x j = f j := if_neg h
/-- a reference in a field, or in an array -/
def zz_us (S : Nat → zz_S) (a j : Nat) (r : Option Nat) : Nat → zz_S := fun c => if c = a then ((S a).1, (S a).2.1, fun i => if i = j then r else (S a).2.2 i) else S c
def zz_isr (t : FieldType) : Prop := ∀ (ad : Nat → Nat) (i : Int32) (j : Int64) (r : Option Nat), zz_fv ad t i j r = va_rf (r.map ad)
section ZN
variable {y : zz_Y} {d k pc : Nat} {ls : List (Option Value)} {st : List Value} {M : zz_M} {I : zz_I} {J : zz_J} {Q : zz_Q}
theorem zz_geti {a ci f idx : Nat} (hd : decode y.2.1 pc = .ok (.getfield idx, 3)) (hf : zz_fd y.1.cls idx ci f) (ht : zz_ty ci f = .int) (hs : zz_is M a 0 ci) (kk : zz_G y d k (pc + 3) ls (.int (I a f) :: st) M I J Q) : zz_G y d k pc ls (.ref a :: st) M I J Q := by
  intro p l e R t0 m args below meth c Z base b D cT H locs arr hh
  obtain ⟨hC, hZ, hk, hL, hW, hX, hS⟩ := hh
  exact zz_getW hC hW hd hf hs (by rw [ht]; rfl) (kk p l e R t0 m args below meth c Z base b D cT H locs arr ⟨hC, hZ, hk, hL, hW, hX, hS⟩)
theorem zz_getl {a ci f idx : Nat} (hd : decode y.2.1 pc = .ok (.getfield idx, 3)) (hf : zz_fd y.1.cls idx ci f) (ht : zz_ty ci f = .long) (hs : zz_is M a 0 ci) (kk : zz_G y d k (pc + 3) ls (.long (J a f) :: st) M I J Q) : zz_G y d k pc ls (.ref a :: st) M I J Q := by
  intro p l e R t0 m args below meth c Z base b D cT H locs arr hh
  obtain ⟨hC, hZ, hk, hL, hW, hX, hS⟩ := hh
  exact zz_getW hC hW hd hf hs (by rw [ht]; rfl) (kk p l e R t0 m args below meth c Z base b D cT H locs arr ⟨hC, hZ, hk, hL, hW, hX, hS⟩)
theorem zz_getr {a ci f idx q : Nat} (hd : decode y.2.1 pc = .ok (.getfield idx, 3)) (hf : zz_fd y.1.cls idx ci f) (ht : zz_isr (zz_ty ci f)) (hs : zz_is M a 0 ci) (hr : (M.2 a).2.2 f = some q) (kk : zz_G y d k (pc + 3) ls (.ref q :: st) M I J Q) : zz_G y d k pc ls (.ref a :: st) M I J Q := by
  intro p l e R t0 m args below meth c Z base b D cT H locs arr hh
  obtain ⟨hC, hZ, hk, hL, hW, hX, hS⟩ := hh
  exact zz_getW hC hW hd hf hs (by rw [ht, hr]; rfl) (kk p l e R t0 m args below meth c Z base b D cT H locs arr ⟨hC, hZ, hk, hL, hW, hX, hS⟩)
theorem zz_puti {a ci f idx : Nat} {x : Int32} (hd : decode y.2.1 pc = .ok (.putfield idx, 3)) (hf : zz_fd y.1.cls idx ci f) (ht : zz_ty ci f = .int) (hfin : ∀ q : vw_C, zz_cl[ci]? = some q → (q.2.1 f).2.2.2 = false) (hs : zz_is M a 0 ci) (kk : zz_G y d k (pc + 3) ls st M (zz_ui I a f x) J Q) : zz_G y d k pc ls (.int x :: .ref a :: st) M I J Q := by
  intro p l e R t0 m args below meth c Z base b D cT H locs arr hh
  obtain ⟨hC, hZ, hk, hL, hW, hX, hS⟩ := hh
  refine zz_putW (M' := M) (I' := zz_ui I a f x) (J' := J) hC hW hS hd hf hs (by rw [ht]; rfl) (by rw [ht]; rfl) (fun q hq => Or.inl (hfin q hq)) rfl (fun c hc => ⟨rfl, zz_ui_ne I f x hc, rfl⟩) hs.2.2 (fun j _ => ?_) (fun H' locs' hW' hS' ho => kk p l e R t0 m args below meth c Z base b D cT H' locs' arr ⟨hC, hZ, hk, hL, hW', hX.kept rfl (zz_ui_ne I f x (Nat.ne_of_lt hs.1)) ho, hS'⟩)
  rw [zz_ui_at]
  by_cases e : j = f
  · rw [if_pos e, e, ht]
    simp [zz_fv, upd, zz_tr]
  · rw [if_neg e, zz_upd_ne e]
theorem zz_putl {a ci f idx : Nat} {x : Int64} (hd : decode y.2.1 pc = .ok (.putfield idx, 3)) (hf : zz_fd y.1.cls idx ci f) (ht : zz_ty ci f = .long) (hfin : ∀ q : vw_C, zz_cl[ci]? = some q → (q.2.1 f).2.2.2 = false) (hs : zz_is M a 0 ci) (kk : zz_G y d k (pc + 3) ls st M I (zz_uj J a f x) Q) : zz_G y d k pc ls (.long x :: .ref a :: st) M I J Q := by
  intro p l e R t0 m args below meth c Z base b D cT H locs arr hh
  obtain ⟨hC, hZ, hk, hL, hW, hX, hS⟩ := hh
  refine zz_putW (M' := M) (I' := I) (J' := zz_uj J a f x) hC hW hS hd hf hs (by rw [ht]; rfl) (by rw [ht]; rfl) (fun q hq => Or.inl (hfin q hq)) rfl (fun c hc => ⟨rfl, rfl, zz_uj_ne J f x hc⟩) hs.2.2 (fun j _ => ?_) (fun H' locs' hW' hS' ho => kk p l e R t0 m args below meth c Z base b D cT H' locs' arr ⟨hC, hZ, hk, hL, hW', hX.kept rfl rfl ho, hS'⟩)
  rw [zz_uj_at]
  by_cases e : j = f
  · rw [if_pos e, e, ht]
    simp [zz_fv, vp_updL, zz_tr]
  · rw [if_neg e, zz_updL_ne e]
theorem zz_putr {a ci f idx q : Nat} (hd : decode y.2.1 pc = .ok (.putfield idx, 3)) (hf : zz_fd y.1.cls idx ci f) (ht : zz_isr (zz_ty ci f)) (hfit : ∀ w : Nat, fits (zz_ty ci f) (.ref w) = true ∧ narrow (zz_ty ci f) (.ref w) = .ref w) (hfin : ∀ q : vw_C, zz_cl[ci]? = some q → (q.2.1 f).2.2.2 = true ∧ q.1 = y.1.cls) (hin : y.1.name = "<init>") (hs : zz_is M a 0 ci)
    (kk : zz_G y d k (pc + 3) ls st (M.1, zz_us M.2 a f (some q)) I J Q) : zz_G y d k pc ls (.ref q :: .ref a :: st) M I J Q := by
  intro p l e R t0 m args below meth c Z base b D cT H locs arr hh
  obtain ⟨hC, hZ, hk, hL, hW, hX, hS⟩ := hh
  have hus : zz_us M.2 a f (some q) a = ((M.2 a).1, (M.2 a).2.1, fun i => if i = f then some q else (M.2 a).2.2 i) := if_pos rfl
  refine zz_putW (M' := (M.1, zz_us M.2 a f (some q))) (I' := I) (J' := J) hC hW hS hd hf hs (hfit _).1 (hfit _).2 (fun w hw => Or.inr ⟨(hfin w hw).1, hin, (hfin w hw).2⟩) rfl (fun c hc => ⟨if_neg hc, rfl, rfl⟩) ?_ (fun j _ => ?_) (fun H' locs' hW' hS' ho => kk p l e R t0 m args below meth c Z base b D cT H' locs' arr ⟨hC, hZ, hk, hL, hW', hX.kept (if_neg (Nat.ne_of_lt hs.1)) rfl ho, hS'⟩)
  · show (zz_us M.2 a f (some q) a).1 = 0 ∧ (zz_us M.2 a f (some q) a).2.1 = ci
    rw [hus]
    exact hs.2.2
  · show _ = zz_fv _ _ _ _ ((zz_us M.2 a f (some q) a).2.2 j)
    rw [hus]
    by_cases e : j = f
    · subst e
      simp [ht (zz_ad base b), va_rf, zz_ad, zz_tr]
    · simp [e]
theorem zz_iald {a n : Nat} {i : Int32} (hd : decode y.2.1 pc = .ok (.iaload, 1)) (hs : zz_is M a 1 n) (hi : vp_in i n) (kk : zz_G y d k (pc + 1) ls (.int (I a i.toNatClampNeg) :: st) M I J Q) : zz_G y d k pc ls (.int i :: .ref a :: st) M I J Q := by
  intro p l e R t0 m args below meth c Z base b D cT H locs arr hh
  obtain ⟨hC, hZ, hk, hL, hW, hX, hS⟩ := hh
  have hP := zz_P1 (hW.at hs.1 hs.2.1)
  rw [zz_E1 hs.2.2.1, hs.2.2.2] at hP
  exact va_iald hC.1 hC.2.1 hC.2.2.2.2.2.1.1 hP 0 0 rfl rfl hi hd (kk p l e R t0 m args below meth c Z base b D cT H locs arr ⟨hC, hZ, hk, hL, hW, hX, hS⟩)
theorem zz_lald {a n : Nat} {i : Int32} (hd : decode y.2.1 pc = .ok (.laload, 1)) (hs : zz_is M a 2 n) (hi : vp_in i n) (kk : zz_G y d k (pc + 1) ls (.long (J a i.toNatClampNeg) :: st) M I J Q) : zz_G y d k pc ls (.int i :: .ref a :: st) M I J Q := by
  intro p l e R t0 m args below meth c Z base b D cT H locs arr hh
  obtain ⟨hC, hZ, hk, hL, hW, hX, hS⟩ := hh
  have hP := zz_P1 (hW.at hs.1 hs.2.1)
  rw [zz_E2 hs.2.2.1, hs.2.2.2] at hP
  exact va_lald hC.1 hC.2.1 hC.2.2.2.2.2.1.1 hP 0 1 rfl rfl hi hd (kk p l e R t0 m args below meth c Z base b D cT H locs arr ⟨hC, hZ, hk, hL, hW, hX, hS⟩)
theorem zz_bald {a n : Nat} {i : Int32} (hd : decode y.2.1 pc = .ok (.baload, 1)) (hs : zz_is M a 3 n) (hi : vp_in i n) (kk : zz_G y d k (pc + 1) ls (.int (I a i.toNatClampNeg) :: st) M I J Q) : zz_G y d k pc ls (.int i :: .ref a :: st) M I J Q := by
  intro p l e R t0 m args below meth c Z base b D cT H locs arr hh
  obtain ⟨hC, hZ, hk, hL, hW, hX, hS⟩ := hh
  have hP := zz_P1 (hW.at hs.1 hs.2.1)
  rw [zz_E3 hs.2.2.1, hs.2.2.2] at hP
  exact va_bald hC.1 hC.2.1 hC.2.2.2.2.2.1.1 hP 0 2 rfl rfl hi hd (kk p l e R t0 m args below meth c Z base b D cT H locs arr ⟨hC, hZ, hk, hL, hW, hX, hS⟩)
theorem zz_aald {a n q : Nat} {i : Int32} (hd : decode y.2.1 pc = .ok (.aaload, 1)) (hs : zz_is M a 4 n) (hi : vp_in i n) (hr : (M.2 a).2.2 i.toNatClampNeg = some q) (kk : zz_G y d k (pc + 1) ls (.ref q :: st) M I J Q) : zz_G y d k pc ls (.int i :: .ref a :: st) M I J Q := by
  intro p l e R t0 m args below meth c Z base b D cT H locs arr hh
  obtain ⟨hC, hZ, hk, hL, hW, hX, hS⟩ := hh
  have hP := zz_P1 (hW.at hs.1 hs.2.1)
  rw [zz_E4 hs.2.2.1, hs.2.2.2] at hP
  refine va_aldq (C := "NeverMistaken$Line") hC.1 hC.2.1 hC.2.2.2.2.2.1.1 hP 0 3 rfl rfl hi hd ?_
  rw [hr]
  exact kk p l e R t0 m args below meth c Z base b D cT H locs arr ⟨hC, hZ, hk, hL, hW, hX, hS⟩
theorem zz_aaldI {a n q : Nat} {i : Int32} (hd : decode y.2.1 pc = .ok (.aaload, 1)) (hs : zz_is M a 5 n) (hi : vp_in i n) (hr : (M.2 a).2.2 i.toNatClampNeg = some q) (kk : zz_G y d k (pc + 1) ls (.ref q :: st) M I J Q) : zz_G y d k pc ls (.int i :: .ref a :: st) M I J Q := by
  intro p l e R t0 m args below meth c Z base b D cT H locs arr hh
  obtain ⟨hC, hZ, hk, hL, hW, hX, hS⟩ := hh
  have hat := hW.at hs.1 hs.2.1
  rw [zz_E5 hs.2.2.1, hs.2.2.2] at hat
  have hlt : i.toNatClampNeg < n := Nat.not_le.mp fun q => hi (Or.inr q)
  refine W.aald (v := va_rf (((M.2 a).2.2 i.toNatClampNeg).map (zz_ad base b))) (ty := .array .int) hC.1 hC.2.1 hat ((hC.2.2.2.2.2.1.1.2 4 _ rfl).1 n (fun j => va_rf (((M.2 a).2.2 j).map (zz_ad base b)))) rfl (fun q => by cases q) (by show ¬ (i < 0 ∨ (arrV _ _ _).slots.size ≤ _); rw [arrV_size]; exact hi) (by show (arrV _ _ _).slots[_]? = _; rw [arrV_read _ _ hlt]) rfl rfl hd ?_
  rw [hr]
  exact kk p l e R t0 m args below meth c Z base b D cT H locs arr ⟨hC, hZ, hk, hL, hW, hX, hS⟩
theorem zz_iald0 {i : Int32} (hd : decode y.2.1 pc = .ok (.iaload, 1)) (hi : vp_in i (M.2 0).2.1) (kk : zz_G y d k (pc + 1) ls (.int (I 0 i.toNatClampNeg) :: st) M I J Q) : zz_G y d k pc ls (.int i :: .ref 0 :: st) M I J Q := by
  intro p l e R t0 m args below meth c Z base b D cT H locs arr hh
  obtain ⟨hC, hZ, hk, hL, hW, hX, hS⟩ := hh
  exact va_sld (A := fun q => base ≤ q) (H0 := H) hC.1 hC.2.1 hX.2.2 (by rw [hW.1]; exact Nat.lt_of_lt_of_le hX.1 (Nat.le_add_right _ _)) (Nat.not_le.mpr hX.1) ⟨Nat.le_refl _, fun _ _ _ => rfl, hS.2.2⟩ hi hd (kk p l e R t0 m args below meth c Z base b D cT H locs arr ⟨hC, hZ, hk, hL, hW, hX, hS⟩)
theorem zz_alen0 (hd : decode y.2.1 pc = .ok (.arraylength, 1)) (kk : zz_G y d k (pc + 1) ls (.int (Int32.ofNat (M.2 0).2.1) :: st) M I J Q) : zz_G y d k pc ls (.ref 0 :: st) M I J Q := by
  intro p l e R t0 m args below meth c Z base b D cT H locs arr hh
  obtain ⟨hC, hZ, hk, hL, hW, hX, hS⟩ := hh
  exact va_slen (A := fun q => base ≤ q) (H0 := H) hC.1 hC.2.1 hX.2.2 (by rw [hW.1]; exact Nat.lt_of_lt_of_le hX.1 (Nat.le_add_right _ _)) (Nat.not_le.mpr hX.1) ⟨Nat.le_refl _, fun _ _ _ => rfl, hS.2.2⟩ hd (kk p l e R t0 m args below meth c Z base b D cT H locs arr ⟨hC, hZ, hk, hL, hW, hX, hS⟩)
theorem zz_iast {a n : Nat} {i : Int32} {x : Int32} (hd : decode y.2.1 pc = .ok (.iastore, 1)) (hs : zz_is M a 1 n) (hi : vp_in i n) (kk : zz_G y d k (pc + 1) ls st M (zz_ui I a i.toNatClampNeg (x)) J Q) : zz_G y d k pc ls (.int x :: .int i :: .ref a :: st) M I J Q := by
  intro p l e R t0 m args below meth c Z base b D cT H locs arr hh
  obtain ⟨hC, hZ, hk, hL, hW, hX, hS⟩ := hh
  have hat := hW.at hs.1 hs.2.1
  rw [zz_E1 hs.2.2.1, hs.2.2.2] at hat
  refine W.iast hC.1 hC.2.1 hat ((hC.2.2.2.2.2.1.1.2 0 _ rfl).1 n (fun j => .int (I a j))) (fun q => by cases q) (by show ¬ (i < 0 ∨ (arrV _ _ _).slots.size ≤ _); rw [arrV_size]; exact hi) rfl rfl hd fun H1 e9 z oq => ?_
  refine kk p l e R t0 m args below meth c Z base b D cT H1 _ arr ⟨hC, hZ, hk, hL, hW.set hs.1 z oq rfl (fun c hc => ⟨rfl, zz_ui_ne I _ _ hc, rfl⟩) ?_, hX.kept rfl (zz_ui_ne I _ _ (Nat.ne_of_lt hs.1)) (fun q hq => oq q (Nat.ne_of_lt (Nat.lt_of_lt_of_le hq (zz_ad_ge hs.1)))), hS.put z oq (zz_ad_ge hs.1)⟩
  rw [zz_E1 hs.2.2.1, hs.2.2.2, zz_ui_at]
  show H1[_]? = some (vp_cell _ _)
  rw [e9, vp_cell_i, vp_cell_i, arrV_store]
  congr 2
  funext q
  by_cases hq : q = i.toNatClampNeg
  · subst hq
    simp [updV, upd]
  · simp [updV, upd, hq]
theorem zz_bast {a n : Nat} {i : Int32} {x : Int32} (hd : decode y.2.1 pc = .ok (.bastore, 1)) (hs : zz_is M a 3 n) (hi : vp_in i n) (kk : zz_G y d k (pc + 1) ls st M (zz_ui I a i.toNatClampNeg (jv_b x)) J Q) : zz_G y d k pc ls (.int x :: .int i :: .ref a :: st) M I J Q := by
  intro p l e R t0 m args below meth c Z base b D cT H locs arr hh
  obtain ⟨hC, hZ, hk, hL, hW, hX, hS⟩ := hh
  have hat := hW.at hs.1 hs.2.1
  rw [zz_E3 hs.2.2.1, hs.2.2.2] at hat
  refine W.bast hC.1 hC.2.1 hat ((hC.2.2.2.2.2.1.1.2 2 _ rfl).1 n (fun j => .int (I a j))) (fun q => by cases q) (by show ¬ (i < 0 ∨ (arrV _ _ _).slots.size ≤ _); rw [arrV_size]; exact hi) rfl rfl hd fun H1 e9 z oq => ?_
  refine kk p l e R t0 m args below meth c Z base b D cT H1 _ arr ⟨hC, hZ, hk, hL, hW.set hs.1 z oq rfl (fun c hc => ⟨rfl, zz_ui_ne I _ _ hc, rfl⟩) ?_, hX.kept rfl (zz_ui_ne I _ _ (Nat.ne_of_lt hs.1)) (fun q hq => oq q (Nat.ne_of_lt (Nat.lt_of_lt_of_le hq (zz_ad_ge hs.1)))), hS.put z oq (zz_ad_ge hs.1)⟩
  rw [zz_E3 hs.2.2.1, hs.2.2.2, zz_ui_at]
  show H1[_]? = some (vp_cell _ _)
  rw [e9, vp_cell_i, vp_cell_i, arrV_store]
  congr 2
  funext q
  by_cases hq : q = i.toNatClampNeg
  · subst hq
    simp [updV, upd, narrow_byte, jv_b]
  · simp [updV, upd, hq]
theorem zz_last {a n : Nat} {i : Int32} {x : Int64} (hd : decode y.2.1 pc = .ok (.lastore, 1)) (hs : zz_is M a 2 n) (hi : vp_in i n) (kk : zz_G y d k (pc + 1) ls st M I (zz_uj J a i.toNatClampNeg x) Q) : zz_G y d k pc ls (.long x :: .int i :: .ref a :: st) M I J Q := by
  intro p l e R t0 m args below meth c Z base b D cT H locs arr hh
  obtain ⟨hC, hZ, hk, hL, hW, hX, hS⟩ := hh
  have hat := hW.at hs.1 hs.2.1
  rw [zz_E2 hs.2.2.1, hs.2.2.2] at hat
  refine W.last hC.1 hC.2.1 hat ((hC.2.2.2.2.2.1.1.2 1 _ rfl).1 n (fun j => .long (J a j))) (fun q => by cases q) (by show ¬ (i < 0 ∨ (arrV _ _ _).slots.size ≤ _); rw [arrV_size]; exact hi) rfl rfl hd fun H1 e9 z oq => ?_
  refine kk p l e R t0 m args below meth c Z base b D cT H1 _ arr ⟨hC, hZ, hk, hL, hW.set hs.1 z oq rfl (fun c hc => ⟨rfl, rfl, zz_uj_ne J _ _ hc⟩) ?_, hX.kept rfl rfl (fun q hq => oq q (Nat.ne_of_lt (Nat.lt_of_lt_of_le hq (zz_ad_ge hs.1)))), hS.put z oq (zz_ad_ge hs.1)⟩
  rw [zz_E2 hs.2.2.1, hs.2.2.2, zz_uj_at]
  show H1[_]? = some (vp_cell _ _)
  rw [e9, vp_cell_l, vp_cell_l, arrV_store]
  congr 2
  funext q
  by_cases hq : q = i.toNatClampNeg
  · subst hq
    simp [updV, vp_updL]
  · simp [updV, vp_updL, hq]
/-- what a call's link says: the method's name and code are in the tables -/
def zz_lk (y : zz_Y) (n : Nat) : Prop := Cond.code y.1 y.2.1 y.2.2.1 y.2.2.2.1 ∈ zz_tbl ∧ Cond.initialized y.1.cls ∈ zz_tbl ∧ (y.1.cls ≠ "java/lang/invoke/MethodHandle" ∧ y.1.cls ≠ "java/lang/invoke/VarHandle" ∧ (parseMethodDescriptor y.1.desc).map (fun d => d.parameters.length) = some n) ∧ y.2.2.1 ≤ 81
theorem zz_goodIn {y : zz_Y} {n : Nat} (h : zz_lk y n) : GoodIn zz_tbl (zz_ws y) := fun w hw => by
  rcases List.mem_cons.mp hw with rfl | h1
  · exact ⟨h.1, good_of_word (zz_tbl_good _ h.1)⟩
  · exact ⟨h1, good_of_word (zz_tbl_good _ h1)⟩
theorem zz_roomOk {y : zz_Y} {n d : Nat} {R : Room} (h : zz_lk y n) (h1 : d + 1 ≤ R.frames) (h2 : 100 * (d + 1) ≤ R.locals) : (zz_rm y d).frames + 1 ≤ R.frames ∧ 8 + (y.2.2.1 + 11) + (zz_rm y d).locals ≤ R.locals := by
  have := h.2.2.2
  exact ⟨h1, by show 8 + (y.2.2.1 + 11) + 100 * d ≤ R.locals; omega⟩
theorem zz_catsum (base b : Nat) (st : List Value) : ((st.map (zz_tr base b)).map fun v => v.category).sum = (st.map fun v => v.category).sum := by
  rw [List.map_map]
  congr 1
  apply List.map_congr_left
  intro v _
  exact zz_tr_cat base b v
theorem zz_callV {y' : zz_Y} {a ci idx : Nat} {w : vw_C} {As : List Value} (hd : decode y.2.1 pc = .ok (.invokevirtual idx, 3)) (hlk : zz_lk y' As.length) (hlink : Cond.methodLink y.1.cls idx y'.1 ∈ zz_tbl) (hin : Cond.instanceMethod y'.1 ∈ zz_tbl) (hsel : Cond.selects y'.1.cls y'.1 y'.1 ∈ zz_tbl) (hs : zz_is M a 0 ci) (hcl : zz_cl[ci]? = some w) (hcn : w.1 = y'.1.cls) (hcat : (st.map fun v => v.category).sum ≤ 8) (hkk : k + y'.2.2.2.2 ≤ y.2.2.2.2)
    (kk : zz_D y' d (.ref a :: As) M I J (fun v M' I' J' => zz_G y (d + 1) (k + y'.2.2.2.2) (pc + 3) ls (v.toList ++ st) M' I' J' Q)) : zz_G y (d + 1) k pc ls (As.reverse ++ .ref a :: st) M I J Q := by
  intro p l e R t0 m args below meth c Z base b D cT H locs arr hh
  obtain ⟨hC, hZ, hk, hL, hW, hX, hS⟩ := hh
  obtain ⟨y1, y2, y3, y4, y5⟩ := y'
  have hrecv : ∃ cellB : Cell, H[zz_ad base b a]? = some cellB ∧ cellB.vm.isStatics = false ∧ t0.vm.findClass y1.cls = some cellB.cls := by
    have hP := zz_P1 (hW.at hs.1 hs.2.1)
    rw [zz_E0 hs.2.2.1 hs.2.2.2] at hP
    have := va_recv hC.2.2.2.2.2.1.1 hP hcl (q0 := 0) rfl
    rw [hcn] at this
    exact this
  have hts := hC.2.2.2.2.1
  have hM := kk l base b D cT
  have hst0 : 2 * (F0 m pc arr ((As.reverse ++ .ref a :: st).map (zz_tr base b))).monitorRoom + (((st.map (zz_tr base b)).map fun v => v.category).sum) ≤ 8 := lv_room (rest := (As.reverse ++ .ref a :: st).map (zz_tr base b)) (by rw [zz_catsum]; exact hcat)
  have hcs : k + y5 ≤ R.cells ∧ 1200 * k + 1200 * y5 ≤ R.slots := by
    have h1 := hC.2.2.2.2.2.2.2.2.2.1
    have h2 := hC.2.2.2.2.2.2.2.2.2.2.1
    have h3 : k + y5 ≤ y.2.2.2.2 := hkk
    exact ⟨by omega, by omega⟩
  have hfr := zz_roomOk hlk hC.2.2.2.2.2.2.2.1 hC.2.2.2.2.2.2.2.2.1
  have cb := callB_of (R := R) (args := args) (s := t0) As.length hts (zz_goodIn hlk) rfl rfl rfl (hts _ hlk.2.1) (hts _ hlink) hlk.2.2.1 hfr
  refine zz_back (st := st) hC hZ hkk hL hS (va_runV (As := As.map (zz_tr base b)) (rest := st.map (zz_tr base b)) ⟨hC.1, hC.2.1, hC.2.2.1, hC.2.2.2.1, hts⟩ hM ⟨cb, hts _ hin, hts _ hsel⟩ ⟨zz_Pc.blind, hrecv, zz_Pc.at hW hX hC.2.2.2.2.2.1⟩ rfl (List.length_map _) hL.1 (by simp [List.map_reverse, zz_tr]) hst0 hd hcs) (fun v M' I' J' h => h)
theorem zz_callS {y' : zz_Y} {idx : Nat} {As : List Value} (hd : decode y.2.1 pc = .ok (.invokestatic idx, 3)) (hlk : zz_lk y' As.length) (hlink : Cond.methodLink y.1.cls idx y'.1 ∈ zz_tbl) (hst : Cond.static y'.1 ∈ zz_tbl) (hcat : (st.map fun v => v.category).sum ≤ 8) (hkk : k + y'.2.2.2.2 ≤ y.2.2.2.2)
    (kk : zz_D y' d (As) M I J (fun v M' I' J' => zz_G y (d + 1) (k + y'.2.2.2.2) (pc + 3) ls (v.toList ++ st) M' I' J' Q)) : zz_G y (d + 1) k pc ls (As.reverse ++ st) M I J Q := by
  intro p l e R t0 m args below meth c Z base b D cT H locs arr hh
  obtain ⟨hC, hZ, hk, hL, hW, hX, hS⟩ := hh
  obtain ⟨y1, y2, y3, y4, y5⟩ := y'
  have hts := hC.2.2.2.2.1
  have hM := kk l base b D cT
  have hst0 : 2 * (F0 m pc arr ((As.reverse ++ st).map (zz_tr base b))).monitorRoom + (((st.map (zz_tr base b)).map fun v => v.category).sum) ≤ 8 := lv_room (rest := (As.reverse ++ st).map (zz_tr base b)) (by rw [zz_catsum]; exact hcat)
  have hcs : k + y5 ≤ R.cells ∧ 1200 * k + 1200 * y5 ≤ R.slots := by
    have h1 := hC.2.2.2.2.2.2.2.2.2.1
    have h2 := hC.2.2.2.2.2.2.2.2.2.2.1
    have h3 : k + y5 ≤ y.2.2.2.2 := hkk
    exact ⟨by omega, by omega⟩
  have hfr := zz_roomOk hlk hC.2.2.2.2.2.2.2.1 hC.2.2.2.2.2.2.2.2.1
  have cb := callB_of (R := R) (args := args) (s := t0) As.length hts (zz_goodIn hlk) rfl rfl rfl (hts _ hlk.2.1) (hts _ hlink) hlk.2.2.1 hfr
  refine zz_back (st := st) hC hZ hkk hL hS (va_runS (As := As.map (zz_tr base b)) (rest := st.map (zz_tr base b)) ⟨hC.1, hC.2.1, hC.2.2.1, hC.2.2.2.1, hts⟩ hM ⟨cb, hts _ hst⟩ ⟨zz_Pc.blind, zz_Pc.at hW hX hC.2.2.2.2.2.1⟩ rfl (List.length_map _) hL.1 (by simp [List.map_reverse, zz_tr]) hst0 hd hcs) (fun v M' I' J' h => h)
theorem zz_callSN {y' : zz_Y} {idx : Nat} {host : String} {As : List Value} (hd : decode y.2.1 pc = .ok (.invokestatic idx, 3)) (hlk : zz_lk y' As.length) (hlink : Cond.methodLinkNest y.1.cls idx y'.1 host ∈ zz_nest) (hst : Cond.static y'.1 ∈ zz_tbl) (hcat : (st.map fun v => v.category).sum ≤ 8) (hkk : k + y'.2.2.2.2 ≤ y.2.2.2.2)
    (kk : zz_D y' d (As) M I J (fun v M' I' J' => zz_G y (d + 1) (k + y'.2.2.2.2) (pc + 3) ls (v.toList ++ st) M' I' J' Q)) : zz_G y (d + 1) k pc ls (As.reverse ++ st) M I J Q := by
  intro p l e R t0 m args below meth c Z base b D cT H locs arr hh
  obtain ⟨hC, hZ, hk, hL, hW, hX, hS⟩ := hh
  obtain ⟨y1, y2, y3, y4, y5⟩ := y'
  have hts := hC.2.2.2.2.1
  have hM := kk l base b D cT
  have hst0 : 2 * (F0 m pc arr ((As.reverse ++ st).map (zz_tr base b))).monitorRoom + (((st.map (zz_tr base b)).map fun v => v.category).sum) ≤ 8 := lv_room (rest := (As.reverse ++ st).map (zz_tr base b)) (by rw [zz_catsum]; exact hcat)
  have hcs : k + y5 ≤ R.cells ∧ 1200 * k + 1200 * y5 ≤ R.slots := by
    have h1 := hC.2.2.2.2.2.2.2.2.2.1
    have h2 := hC.2.2.2.2.2.2.2.2.2.2.1
    have h3 : k + y5 ≤ y.2.2.2.2 := hkk
    exact ⟨by omega, by omega⟩
  have hfr := zz_roomOk hlk hC.2.2.2.2.2.2.2.1 hC.2.2.2.2.2.2.2.2.1
  have cb := va_cnB (R := R) (args := args) (s := t0) As.length hts (zz_goodIn hlk) rfl rfl rfl (hC.2.2.2.2.2.1.2.1 _ hlink) (hts _ hlk.2.1) hlk.2.2.1 hfr
  refine zz_back (st := st) hC hZ hkk hL hS (va_runSN (As := As.map (zz_tr base b)) (rest := st.map (zz_tr base b)) ⟨hC.1, hC.2.1, hC.2.2.1, hC.2.2.2.1, hts⟩ hM ⟨cb, hts _ hst, trivial⟩ ⟨zz_Pc.blind, zz_Pc.at hW hX hC.2.2.2.2.2.1⟩ rfl (List.length_map _) hL.1 (by simp [List.map_reverse, zz_tr]) hst0 hd hcs) (fun v M' I' J' h => h)
theorem zz_callI {y' : zz_Y} {a idx : Nat} {As : List Value} (hd : decode y.2.1 pc = .ok (.invokespecial idx, 3)) (hlk : zz_lk y' As.length) (hlink : Cond.methodLink y.1.cls idx y'.1 ∈ zz_tbl) (hin : Cond.instanceMethod y'.1 ∈ zz_tbl) (hnm : y'.1.name = "<init>") (hrt : y'.2.2.2.1 = none) (hcat : (st.map fun v => v.category).sum ≤ 8) (hkk : k + y'.2.2.2.2 ≤ y.2.2.2.2)
    (kk : zz_D y' d (.ref a :: As) M I J (fun v M' I' J' => zz_G y (d + 1) (k + y'.2.2.2.2) (pc + 3) ls (v.toList ++ st) M' I' J' Q)) : zz_G y (d + 1) k pc ls (As.reverse ++ .ref a :: st) M I J Q := by
  intro p l e R t0 m args below meth c Z base b D cT H locs arr hh
  obtain ⟨hC, hZ, hk, hL, hW, hX, hS⟩ := hh
  obtain ⟨y1, y2, y3, y4, y5⟩ := y'
  have hrt : y4 = none := hrt
  subst hrt
  have hts := hC.2.2.2.2.1
  have hM := kk l base b D cT
  have hst0 : 2 * (F0 m pc arr ((As.reverse ++ .ref a :: st).map (zz_tr base b))).monitorRoom + (((st.map (zz_tr base b)).map fun v => v.category).sum) ≤ 8 := lv_room (rest := (As.reverse ++ .ref a :: st).map (zz_tr base b)) (by rw [zz_catsum]; exact hcat)
  have hcs : k + y5 ≤ R.cells ∧ 1200 * k + 1200 * y5 ≤ R.slots := by
    have h1 := hC.2.2.2.2.2.2.2.2.2.1
    have h2 := hC.2.2.2.2.2.2.2.2.2.2.1
    have h3 : k + y5 ≤ y.2.2.2.2 := hkk
    exact ⟨by omega, by omega⟩
  have hfr := zz_roomOk hlk hC.2.2.2.2.2.2.2.1 hC.2.2.2.2.2.2.2.2.1
  have cb := callB_of (R := R) (args := args) (s := t0) As.length hts (zz_goodIn hlk) rfl rfl rfl (hts _ hlk.2.1) (hts _ hlink) hlk.2.2.1 hfr
  refine zz_back (st := st) hC hZ hkk hL hS (va_runI (As := As.map (zz_tr base b)) (rest := st.map (zz_tr base b)) ⟨hC.1, hC.2.1, hC.2.2.1, hC.2.2.2.1, hts⟩ hM ⟨cb, hnm, hts _ hin⟩ ⟨zz_Pc.blind, zz_Pc.at hW hX hC.2.2.2.2.2.1⟩ rfl (List.length_map _) hL.1 (by simp [List.map_reverse, zz_tr]) hst0 hd hcs) (fun v M' I' J' h => h)
theorem zz_callIN {y' : zz_Y} {a idx : Nat} {host : String} {As : List Value} (hd : decode y.2.1 pc = .ok (.invokespecial idx, 3)) (hlk : zz_lk y' As.length) (hlink : Cond.methodLinkNest y.1.cls idx y'.1 host ∈ zz_nest) (hin : Cond.instanceMethod y'.1 ∈ zz_tbl) (hnm : y'.1.name = "<init>") (hrt : y'.2.2.2.1 = none) (hcat : (st.map fun v => v.category).sum ≤ 8) (hkk : k + y'.2.2.2.2 ≤ y.2.2.2.2)
    (kk : zz_D y' d (.ref a :: As) M I J (fun v M' I' J' => zz_G y (d + 1) (k + y'.2.2.2.2) (pc + 3) ls (v.toList ++ st) M' I' J' Q)) : zz_G y (d + 1) k pc ls (As.reverse ++ .ref a :: st) M I J Q := by
  intro p l e R t0 m args below meth c Z base b D cT H locs arr hh
  obtain ⟨hC, hZ, hk, hL, hW, hX, hS⟩ := hh
  obtain ⟨y1, y2, y3, y4, y5⟩ := y'
  have hrt : y4 = none := hrt
  subst hrt
  have hts := hC.2.2.2.2.1
  have hM := kk l base b D cT
  have hst0 : 2 * (F0 m pc arr ((As.reverse ++ .ref a :: st).map (zz_tr base b))).monitorRoom + (((st.map (zz_tr base b)).map fun v => v.category).sum) ≤ 8 := lv_room (rest := (As.reverse ++ .ref a :: st).map (zz_tr base b)) (by rw [zz_catsum]; exact hcat)
  have hcs : k + y5 ≤ R.cells ∧ 1200 * k + 1200 * y5 ≤ R.slots := by
    have h1 := hC.2.2.2.2.2.2.2.2.2.1
    have h2 := hC.2.2.2.2.2.2.2.2.2.2.1
    have h3 : k + y5 ≤ y.2.2.2.2 := hkk
    exact ⟨by omega, by omega⟩
  have hfr := zz_roomOk hlk hC.2.2.2.2.2.2.2.1 hC.2.2.2.2.2.2.2.2.1
  have cb := va_cnB (R := R) (args := args) (s := t0) As.length hts (zz_goodIn hlk) rfl rfl rfl (hC.2.2.2.2.2.1.2.1 _ hlink) (hts _ hlk.2.1) hlk.2.2.1 hfr
  refine zz_back (st := st) hC hZ hkk hL hS (va_runIN (As := As.map (zz_tr base b)) (rest := st.map (zz_tr base b)) ⟨hC.1, hC.2.1, hC.2.2.1, hC.2.2.2.1, hts⟩ hM ⟨cb, hnm, hts _ hin⟩ ⟨zz_Pc.blind, zz_Pc.at hW hX hC.2.2.2.2.2.1⟩ rfl (List.length_map _) hL.1 (by simp [List.map_reverse, zz_tr]) hst0 hd hcs) (fun v M' I' J' h => h)
theorem zz_callVN {y' : zz_Y} {a ci idx : Nat} {w : vw_C} {host : String} {As : List Value} (hd : decode y.2.1 pc = .ok (.invokevirtual idx, 3)) (hlk : zz_lk y' As.length) (hlink : Cond.methodLinkNest y.1.cls idx y'.1 host ∈ zz_nest) (hin : Cond.instanceMethod y'.1 ∈ zz_tbl) (hsel : Cond.selects y'.1.cls y'.1 y'.1 ∈ zz_tbl) (hs : zz_is M a 0 ci) (hcl : zz_cl[ci]? = some w) (hcn : w.1 = y'.1.cls) (hcat : (st.map fun v => v.category).sum ≤ 8) (hkk : k + y'.2.2.2.2 ≤ y.2.2.2.2)
    (kk : zz_D y' d (.ref a :: As) M I J (fun v M' I' J' => zz_G y (d + 1) (k + y'.2.2.2.2) (pc + 3) ls (v.toList ++ st) M' I' J' Q)) : zz_G y (d + 1) k pc ls (As.reverse ++ .ref a :: st) M I J Q := by
  intro p l e R t0 m args below meth c Z base b D cT H locs arr hh
  obtain ⟨hC, hZ, hk, hL, hW, hX, hS⟩ := hh
  obtain ⟨y1, y2, y3, y4, y5⟩ := y'
  have hrecv : ∃ cellB : Cell, H[zz_ad base b a]? = some cellB ∧ cellB.vm.isStatics = false ∧ t0.vm.findClass y1.cls = some cellB.cls := by
    have hP := zz_P1 (hW.at hs.1 hs.2.1)
    rw [zz_E0 hs.2.2.1 hs.2.2.2] at hP
    have := va_recv hC.2.2.2.2.2.1.1 hP hcl (q0 := 0) rfl
    rw [hcn] at this
    exact this
  have hts := hC.2.2.2.2.1
  have hM := kk l base b D cT
  have hst0 : 2 * (F0 m pc arr ((As.reverse ++ .ref a :: st).map (zz_tr base b))).monitorRoom + (((st.map (zz_tr base b)).map fun v => v.category).sum) ≤ 8 := lv_room (rest := (As.reverse ++ .ref a :: st).map (zz_tr base b)) (by rw [zz_catsum]; exact hcat)
  have hcs : k + y5 ≤ R.cells ∧ 1200 * k + 1200 * y5 ≤ R.slots := by
    have h1 := hC.2.2.2.2.2.2.2.2.2.1
    have h2 := hC.2.2.2.2.2.2.2.2.2.2.1
    have h3 : k + y5 ≤ y.2.2.2.2 := hkk
    exact ⟨by omega, by omega⟩
  have hfr := zz_roomOk hlk hC.2.2.2.2.2.2.2.1 hC.2.2.2.2.2.2.2.2.1
  have cb := va_cnB (R := R) (args := args) (s := t0) As.length hts (zz_goodIn hlk) rfl rfl rfl (hC.2.2.2.2.2.1.2.1 _ hlink) (hts _ hlk.2.1) hlk.2.2.1 hfr
  refine zz_back (st := st) hC hZ hkk hL hS (va_runVN (As := As.map (zz_tr base b)) (rest := st.map (zz_tr base b)) ⟨hC.1, hC.2.1, hC.2.2.1, hC.2.2.2.1, hts⟩ hM ⟨cb, hts _ hin, hts _ hsel⟩ ⟨zz_Pc.blind, hrecv, zz_Pc.at hW hX hC.2.2.2.2.2.1⟩ rfl (List.length_map _) hL.1 (by simp [List.map_reverse, zz_tr]) hst0 hd hcs) (fun v M' I' J' h => h)
theorem zz_objInit {a idx : Nat} (hd : decode y.2.1 pc = .ok (.invokespecial idx, 3)) (h1 : Cond.methodLink y.1.cls idx Lib.objectInit ∈ zz_tbl) (h2 : Cond.instanceMethod Lib.objectInit ∈ zz_tbl) (h3 : Cond.code Lib.objectInit ⟨#[0xb1]⟩ 1 none ∈ zz_tbl) (hcat : (st.map fun v => v.category).sum ≤ 8) (kk : zz_G y (d + 1) k (pc + 3) ls st M I J Q) : zz_G y (d + 1) k pc ls (.ref a :: st) M I J Q := by
  intro p l e R t0 m args below meth c Z base b D cT H locs arr hh
  obtain ⟨hC, hZ, hk, hL, hW, hX, hS⟩ := hh
  have hts := hC.2.2.2.2.1
  have hst0 : 2 * (F0 m pc arr ((Value.ref a :: st).map (zz_tr base b))).monitorRoom + (((st.map (zz_tr base b)).map fun v => v.category).sum) ≤ 8 := lv_room (rest := (Value.ref a :: st).map (zz_tr base b)) (by rw [zz_catsum]; exact hcat)
  exact W.objInit hC.1 hC.2.1 hC.2.2.2.1 (hts _ h1) (hts _ h2) (hts _ h3) rfl (hL.1.trans hC.2.2.1.symm) rfl hd (by have := hC.2.2.2.2.2.2.2.1; omega) (by have := hC.2.2.2.2.2.2.2.2.1; omega) (kk p l e R t0 m args below meth c Z base b D cT H locs arr ⟨hC, hZ, hk, hL, hW, hX, hS⟩)
end ZN
