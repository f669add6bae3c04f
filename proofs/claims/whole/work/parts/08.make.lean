/-! ===== rows: making ===== -/
theorem zz_ty_kinds (ci j : Nat) : zz_ty ci j = .int ∨ zz_ty ci j = .long ∨ (∃ n, zz_ty ci j = .object n) ∨ ∃ t, zz_ty ci j = .array t := by
  unfold zz_ty
  split
  · unfold tyX0; split <;> simp
  · unfold tyX1; split <;> simp
  · unfold tyX2; split <;> simp
  · unfold tyX3; split <;> simp
  · unfold tyX4; split <;> simp
  · unfold tyX5; split <;> simp
  · unfold tyX6; split <;> simp
  · unfold tyX7; split <;> simp
  · unfold tyX8; split <;> simp
  · unfold tyX9; split <;> simp
  · unfold tyX10; split <;> simp
theorem zz_dflt (ad : Nat → Nat) (ci j : Nat) : defaultValue (zz_ty ci j) = zz_fv ad (zz_ty ci j) 0 0 none := by
  rcases zz_ty_kinds ci j with h | h | ⟨n, h⟩ | ⟨t, h⟩ <;> rw [h] <;> rfl
/-- a cell more -/
def zz_pu (M : zz_M) (x : zz_S) : zz_M := (M.1 + 1, fun c => if c = M.1 + 1 then x else M.2 c)
theorem zz_pu0 (M : zz_M) (x : zz_S) : (zz_pu M x).2 0 = M.2 0 := by
  show (if 0 = M.1 + 1 then x else M.2 0) = M.2 0
  rw [if_neg (by omega)]
theorem zz_W.push {base b : Nat} {D : va_G} {cT : Nat → ClassId} {M : zz_M} {I : zz_I} {J : zz_J} {H H' : Heap} {x : zz_S} (h : zz_W base b D cT M I J H) (hz : H'.size = H.size + 1) (ho : ∀ q, q < H.size → H'[q]? = H[q]?) (hat : va_at D zz_cl (H.size, zz_E (zz_ad base b) cT x (I (M.1 + 1)) (J (M.1 + 1))) H') : zz_W base b D cT (zz_pu M x) I J H' := by
  refine ⟨by rw [hz, h.1]; rfl, fun k hk => ?_⟩
  by_cases e : k = M.1
  · subst e
    show va_at D zz_cl (base + M.1, zz_E (zz_ad base b) cT (if M.1 + 1 = M.1 + 1 then x else M.2 (M.1 + 1)) _ _) H'
    rw [if_pos rfl, ← h.1]
    exact hat
  · have hk' : k < M.1 := by have : k < M.1 + 1 := hk; omega
    show va_at D zz_cl (base + k, zz_E (zz_ad base b) cT (if k + 1 = M.1 + 1 then x else M.2 (k + 1)) _ _) H'
    rw [if_neg (by omega)]
    exact (h.2 k hk').kept (ho _ (by rw [h.1]; omega))
theorem zz_S_push {A : Nat → Prop} {H0 H H' : Heap} {locs : List Loc} {n : Nat} (hS : va_S A H0 H locs) (hz : H'.size = H.size + n) (ho : ∀ q, q < H.size → H'[q]? = H[q]?) : va_S A H0 H' locs :=
  ⟨by rw [hz]; exact Nat.le_trans hS.1 (Nat.le_add_right _ _), fun q h1 h2 => (ho q (Nat.lt_of_lt_of_le h1 hS.1)).trans (hS.2.1 q h1 h2), hS.2.2⟩
theorem zz_ad_new {base b : Nat} {D : va_G} {cT : Nat → ClassId} {M : zz_M} {I : zz_I} {J : zz_J} {H : Heap} (h : zz_W base b D cT M I J H) : H.size = zz_ad base b (M.1 + 1) := h.1
section ZK
variable {y : zz_Y} {d k pc : Nat} {ls : List (Option Value)} {st : List Value} {M : zz_M} {I : zz_I} {J : zz_J} {Q : zz_Q}
theorem zz_new {ci idx : Nat} {q : vw_C} (hd : decode y.2.1 pc = .ok (.new idx, 3)) (hq : zz_cl[ci]? = some q) (h1 : Cond.classLink y.1.cls idx q.1 ∈ zz_tbl) (h2 : Cond.instantiable q.1 q.2.2 ∈ zz_tbl) (h3 : Cond.initialized q.1 ∈ zz_tbl) (hkk : k + 1 ≤ y.2.2.2.2) (hn : q.2.2 ≤ 1200) (hI : ∀ j, I (M.1 + 1) j = 0) (hJ : ∀ j, J (M.1 + 1) j = 0)
    (kk : zz_G y d (k + 1) (pc + 3) ls (.ref (M.1 + 1) :: st) (zz_pu M (0, ci, fun _ => none)) I J Q) : zz_G y d k pc ls st M I J Q := by
  intro p l e R t0 m args below meth c Z base b D cT H locs arr hh
  obtain ⟨hC, hZ, hk, hL, hW, hX, hS⟩ := hh
  obtain ⟨C, T, N⟩ := q
  obtain ⟨ok1, ok2, ok3, ok4, ok5⟩ := zz_oks ci _ hq
  have hts := hC.2.2.2.2.1
  have hKn := hC.2.2.2.2.2.1.1.1 ci _ hq
  have b1 := hC.2.2.2.2.2.2.2.2.2.1
  have b2 := hC.2.2.2.2.2.2.2.2.2.2.1
  have hn : N ≤ 1200 := hn
  refine W.newcK hC.1 hC.2.1 hC.2.2.2.1 (hts _ h1) (hts _ h2) (hts _ h3) rfl hd (by omega) (by show 1200 * k + N ≤ R.slots; omega) hKn.2.1 rfl fun H1 kC hkC e1 z1 o1 => ?_
  refine W.widen (k := k + 1) (n := 1200 * (k + 1)) (Nat.le_refl _) (by show 1200 * k + N ≤ _; omega) ?_
  have hb := (u_born (zz_ty ci) hts ok2 hKn hkC e1 ok3)
  have hWn : zz_W base b D cT (zz_pu M (0, ci, fun _ => none)) I J H1 := by
    refine hW.push z1 o1 ?_
    rw [zz_E0 (ci := ci) rfl rfl]
    refine ⟨_, hq, hb.to (fun j hj => ?_)⟩
    have hj' : j < zz_nf ci := by rw [← ok1]; exact hj
    rw [zz_V _ hj', hI, hJ]
    exact zz_dflt _ ci j
  have hg := kk p l e R t0 m args below meth c Z base b D cT H1 locs arr ⟨hC, hZ, hkk, hL, hWn, hX.kept (zz_pu0 M _) rfl (fun q hq => o1 q (by rw [hW.1]; omega)), zz_S_push hS z1 o1⟩
  rw [zz_ad_new hW]
  exact hg
theorem zz_newarr {t : Nat} {at0 : ArrayType} {ty : FieldType} {n : Int32} {N : Nat} (hd : decode y.2.1 pc = .ok (.newarray at0, 2)) (ht : newarray.typeOf at0 = ty) (h1 : Cond.arrayClass ty ∈ zz_tbl) (hkk : k + 1 ≤ y.2.2.2.2) (hn : ¬ n < 0) (hN : n.toNatClampNeg = N) (hN2 : N ≤ 1200) (hI : ∀ j, I (M.1 + 1) j = 0) (hJ : ∀ j, J (M.1 + 1) j = 0) (hc : (ty = .int ∧ t = 1) ∨ (ty = .long ∧ t = 2) ∨ (ty = .byte ∧ t = 3))
    (kk : zz_G y d (k + 1) (pc + 2) ls (.ref (M.1 + 1) :: st) (zz_pu M (t, N, fun _ => none)) I J Q) : zz_G y d k pc ls (.int n :: st) M I J Q := by
  intro p l e R t0 m args below meth c Z base b D cT H locs arr hh
  obtain ⟨hC, hZ, hk, hL, hW, hX, hS⟩ := hh
  subst ht
  have hts := hC.2.2.2.2.1
  have hK := hC.2.2.2.2.2.1.1
  have b1 := hC.2.2.2.2.2.2.2.2.2.1
  have b2 := hC.2.2.2.2.2.2.2.2.2.2.1
  have hI0 : I (M.1 + 1) = fun _ => 0 := funext hI
  have hJ0 : J (M.1 + 1) = fun _ => 0 := funext hJ
  have hby : N * componentBytes (newarray.typeOf at0) ≤ 536870912 := by
    rcases hc with ⟨h, -⟩ | ⟨h, -⟩ | ⟨h, -⟩ <;> rw [h] <;> simp [componentBytes] <;> omega
  refine va_newaK hC.1 hC.2.1 (hts _ h1) rfl hd rfl hn hN hby (by omega) (by omega) rfl fun H1 cA e1 z1 o1 hAr hNm => ?_
  refine W.widen (k := k + 1) (n := 1200 * (k + 1)) (Nat.le_refl _) (by omega) ?_
  have hWn : zz_W base b D cT (zz_pu M (t, N, fun _ => none)) I J H1 := by
    refine hW.push z1 o1 ?_
    rcases hc with ⟨h, rfl⟩ | ⟨h, rfl⟩ | ⟨h, rfl⟩
    · rw [zz_E1 rfl, hI0]
      have hr : t0.vm.findClass ("[" ++ FieldType.int.toString) = some (cT 1) := (hK.2 0 _ rfl).2
      rw [h] at hNm e1
      cases hr.symm.trans hNm
      exact e1
    · rw [zz_E2 rfl, hJ0]
      have hr : t0.vm.findClass ("[" ++ FieldType.long.toString) = some (cT 2) := (hK.2 1 _ rfl).2
      rw [h] at hNm e1
      cases hr.symm.trans hNm
      exact e1
    · rw [zz_E3 rfl, hI0]
      have hr : t0.vm.findClass ("[" ++ FieldType.byte.toString) = some (cT 3) := (hK.2 2 _ rfl).2
      rw [h] at hNm e1
      cases hr.symm.trans hNm
      exact e1
  have hg := kk p l e R t0 m args below meth c Z base b D cT H1 locs arr ⟨hC, hZ, hkk, hL, hWn, hX.kept (zz_pu0 M _) rfl (fun q hq => o1 q (by rw [hW.1]; omega)), zz_S_push hS z1 o1⟩
  rw [zz_ad_new hW]
  exact hg
theorem zz_anew {idx : Nat} {n : Int32} {N : Nat} (hd : decode y.2.1 pc = .ok (.anewarray idx, 3)) (h1 : Cond.classLink y.1.cls idx "NeverMistaken$Line" ∈ zz_tbl) (hkk : k + 1 ≤ y.2.2.2.2) (hn : ¬ n < 0) (hN : n.toNatClampNeg = N) (hN2 : N ≤ 1200)
    (kk : zz_G y d (k + 1) (pc + 3) ls (.ref (M.1 + 1) :: st) (zz_pu M (4, N, fun _ => none)) I J Q) : zz_G y d k pc ls (.int n :: st) M I J Q := by
  intro p l e R t0 m args below meth c Z base b D cT H locs arr hh
  obtain ⟨hC, hZ, hk, hL, hW, hX, hS⟩ := hh
  subst hN
  have hts := hC.2.2.2.2.1
  have hK := hC.2.2.2.2.2.1.1
  have b1 := hC.2.2.2.2.2.2.2.2.2.1
  have b2 := hC.2.2.2.2.2.2.2.2.2.2.1
  refine W.anew hC.1 hC.2.1 hC.2.2.2.1 (hts _ h1) (va_AO.use hC.2.2.2.2.2.1.2.2.1) rfl hd rfl hn (by omega) (by omega) (by omega) fun cA kA comp f1 f2 f3 f4 => ?_
  generalize hH1 : H.push ({ cls := cA, slots := Array.replicate n.toNatClampNeg .null, vm := .none } : Cell) = H1
  have z1 : H1.size = H.size + 1 := by rw [← hH1, Array.size_push]
  have e1 : H1[H.size]? = some (arrV cA n.toNatClampNeg (fun _ => .null)) := by rw [← hH1, Array.getElem?_push_size, ← arrV_new]
  have o1 : ∀ q : Nat, q < H.size → H1[q]? = H[q]? := fun q hq => by rw [← hH1, Array.getElem?_push, if_neg (Nat.ne_of_lt hq)]
  refine W.widen (k := k + 1) (n := 1200 * (k + 1)) (Nat.le_refl _) (by omega) ?_
  have hWn : zz_W base b D cT (zz_pu M (4, n.toNatClampNeg, fun _ => none)) I J H1 := by
    refine hW.push z1 o1 ?_
    rw [zz_E4 rfl]
    have hr : t0.vm.findClass ("[" ++ (FieldType.object "NeverMistaken$Line").toString) = some (cT 4) := by
      obtain ⟨kA', comp', -, -, -, h4⟩ := (hK.2 3 _ rfl).2
      exact h4
    cases hr.symm.trans f1
    exact e1
  have hg := kk p l e R t0 m args below meth c Z base b D cT H1 locs arr ⟨hC, hZ, hkk, hL, hWn, hX.kept (zz_pu0 M _) rfl (fun q hq => o1 q (by rw [hW.1]; omega)), zz_S_push hS z1 o1⟩
  show W p l e R t0 m args below meth c H1 locs (k + 1) (1200 * (k + 1)) Z (F0 m (pc + 3) arr (.ref H.size :: List.map (zz_tr base b) st))
  rw [zz_ad_new hW]
  exact hg
/-- a row of references set: lines[l] = new Line() -/
theorem zz_aast {a n ci : Nat} {v : Nat} {i : Int32} (hd : decode y.2.1 pc = .ok (.aastore, 1)) (hs : zz_is M a 4 n) (hi : vp_in i n) (hv : zz_is M v 0 3)
    (kk : zz_G y d k (pc + 1) ls st (M.1, zz_us M.2 a i.toNatClampNeg (some v)) I J Q) : zz_G y d k pc ls (.ref v :: .int i :: .ref a :: st) M I J Q := by
  intro p l e R t0 m args below meth c Z base b D cT H locs arr hh
  obtain ⟨hC, hZ, hk, hL, hW, hX, hS⟩ := hh
  have hK := hC.2.2.2.2.2.1.1
  have hat := hW.at hs.1 hs.2.1
  rw [zz_E4 hs.2.2.1, hs.2.2.2] at hat
  have hatv := hW.at hv.1 hv.2.1
  rw [zz_E0 hv.2.2.1 hv.2.2.2] at hatv
  obtain ⟨r, h1, cv, q1, q2, q3, q4⟩ := hatv
  have hlt : i.toNatClampNeg < n := Nat.not_le.mp fun q => hi (Or.inr q)
  have h0 : ¬ i < 0 := fun q => hi (Or.inl q)
  obtain ⟨-, hcl⟩ := hK.1 3 (RX3, TX3, 6) rfl
  obtain ⟨kA, comp, g1, g2, g3, g4⟩ := (hK.2 3 _ rfl).2
  have hcl' := hcl
  obtain ⟨hfc, kC, hkC, hkind⟩ := hcl
  have hcomp : D.1 3 = comp := Option.some.inj (hfc.symm.trans g3)
  have hasg := va_assign hcl'
  rw [hcomp] at hasg hkC
  rw [hcomp] at q2
  refine W.aast hC.1 hC.2.1 (comp := comp) (k := kA) (kv := kC) (kcomp := kC) (t := .object "NeverMistaken$Line") hat (fun q h => by cases h) (fun h => by cases h) g1 g2 rfl hkC ⟨h0, by show _ < (arrV _ _ _).slots.size; rw [arrV_size]; exact hlt⟩ q1 (fun q h => by rw [q3] at h; cases h) (by rw [q2]; exact hkC) (by rw [q2]; exact hasg) rfl rfl hd fun H1 e9 z oq => ?_
  have hus : zz_us M.2 a i.toNatClampNeg (some v) a = ((M.2 a).1, (M.2 a).2.1, fun j => if j = i.toNatClampNeg then some v else (M.2 a).2.2 j) := if_pos rfl
  refine kk p l e R t0 m args below meth c Z base b D cT H1 _ arr ⟨hC, hZ, hk, hL, hW.set (M' := (M.1, zz_us M.2 a i.toNatClampNeg (some v))) hs.1 z oq rfl (fun c hc => ⟨if_neg hc, rfl, rfl⟩) ?_, hX.kept (if_neg (Nat.ne_of_lt hs.1)) rfl (fun q hq => oq q (Nat.ne_of_lt (Nat.lt_of_lt_of_le hq (zz_ad_ge hs.1)))), hS.put z oq (zz_ad_ge hs.1)⟩
  show va_at D zz_cl (_, zz_E _ _ (zz_us M.2 a i.toNatClampNeg (some v) a) _ _) H1
  rw [hus, zz_E4 (by exact hs.2.2.1)]
  show H1[_]? = some (vp_cell _ _)
  rw [e9, vp_cell_q, vp_cell_q, arrV_store, hs.2.2.2]
  congr 2
  funext q
  by_cases hq : q = i.toNatClampNeg
  · subst hq
    simp [updV, va_rf]
  · simp [updV, hq]
/-- new int[n][j] -/
def zz_pm (M : zz_M) (n j : Nat) : zz_M := (M.1 + 1 + n, fun c => if c = M.1 + 1 then (5, n, fun i => if i < n then some (M.1 + 2 + i) else none) else if M.1 + 2 ≤ c ∧ c < M.1 + 2 + n then (1, j, fun _ => none) else M.2 c)
theorem zz_outer (c : ClassId) (N h0 : Nat) : ∀ i : Nat, Jvm.Free.Multi.outerC c N h0 i = arrV c N (fun j => va_rf (if j < i then some (h0 + 1 + j) else none))
  | 0 => by
    show ({ cls := c, slots := Array.replicate N .null, vm := .none } : Cell) = _
    rw [arrV_new]
    refine congrArg (arrV c N) (funext fun j => ?_)
    simp [va_rf]
  | i + 1 => by
    show (Jvm.Free.Multi.outerC c N h0 i).setSlot i (.ref (h0 + 1 + i)) = _
    rw [zz_outer c N h0 i, arrV_store]
    refine congrArg (arrV c N) (funext fun j => ?_)
    by_cases e : j = i
    · subst e
      simp [updV, va_rf]
    · by_cases h : j < i
      · simp [updV, e, h, Nat.lt_succ_of_lt h]
      · simp [updV, e, h, show ¬ j < i + 1 by omega]
theorem zz_mna {idx : Nat} {n j : Int32} {N' K' : Nat} (hd : decode y.2.1 pc = .ok (.multianewarray idx 2, 4)) (h1 : Cond.classLink y.1.cls idx "[[I" ∈ zz_tbl) (h2 : Cond.arrayClass .int ∈ zz_tbl) (hkk : k + (1 + N') ≤ y.2.2.2.2) (hn : ¬ n < 0) (hj : ¬ j < 0) (hN : n.toNatClampNeg = N') (hK' : j.toNatClampNeg = K') (hN2 : N' ≤ 1000) (hK2 : K' ≤ 1000) (hI : ∀ c, M.1 < c → I c = fun _ => 0)
    (kk : zz_G y d (k + (1 + N')) (pc + 4) ls (.ref (M.1 + 1) :: st) (zz_pm M N' K') I J Q) : zz_G y d k pc ls (.int j :: .int n :: st) M I J Q := by
  intro p l e R t0 m args below meth c Z base b D cT H locs arr hh
  obtain ⟨hC, hZ, hk, hL, hW, hX, hS⟩ := hh
  subst hN
  subst hK'
  have hts := hC.2.2.2.2.1
  have hK := hC.2.2.2.2.2.1.1
  have b1 := hC.2.2.2.2.2.2.2.2.2.1
  have b2 := hC.2.2.2.2.2.2.2.2.2.2.1
  have hsl : n.toNatClampNeg + n.toNatClampNeg * j.toNatClampNeg ≤ 1200 * (1 + n.toNatClampNeg) := by
    have : n.toNatClampNeg * j.toNatClampNeg ≤ n.toNatClampNeg * 1000 := Nat.mul_le_mul_left _ hK2
    omega
  intro T hT Xs
  obtain ⟨vm₁, cA, comp, -, fA, fC, hO, -, X', step⟩ := Xs.multianewarray2F (ty := .int) hC.1 hC.2.2.2.1 (hts _ h1) hC.2.2.2.2.2.1.2.2.2 (hts _ h2) (g := F0 m pc arr (.int j :: .int n :: List.map (zz_tr base b) st)) rfl (by rw [hC.2.1]; exact hd) rfl hn hj (by omega) (by simp [componentBytes]; omega) (by omega) rfl rfl (by omega) (by omega)
  have ec : t0.vm.findClass (FieldType.array .int).toString = some (cT 1) := (hK.2 0 _ rfl).2
  cases ec.symm.trans fC
  have eA : t0.vm.findClass ("[" ++ (FieldType.array .int).toString) = some (cT 5) := (hK.2 4 _ rfl).2
  cases eA.symm.trans fA
  generalize hF : Jvm.Free.Multi.fill (T.setVm vm₁) (cT 5) (cT 1) n.toNatClampNeg j.toNatClampNeg (defaultValue .int) n.toNatClampNeg = F at X' step
  have hTh : (T.setVm vm₁).heap = H := hT
  obtain ⟨f1, f2, -, -⟩ := Jvm.Free.Multi.fill_facts (T.setVm vm₁) (cT 5) (cT 1) n.toNatClampNeg j.toNatClampNeg (defaultValue .int) n.toNatClampNeg
  rw [hF, hTh] at f1 f2
  have hold : ∀ x : Nat, x < H.size → F.heap[x]? = H[x]? := fun x hx => by
    have := Jvm.Free.Multi.fill_old (T.setVm vm₁) (cT 5) (cT 1) n.toNatClampNeg j.toNatClampNeg (defaultValue .int) (a := x) (by rw [hTh]; exact hx) n.toNatClampNeg
    rw [hF, hTh] at this
    exact this
  have hrow : ∀ i : Nat, i < n.toNatClampNeg → F.heap[H.size + 1 + i]? = some (arrV (cT 1) j.toNatClampNeg (fun _ => .int 0)) := fun i hi => by
    have := Jvm.Free.Multi.fill_inner (T.setVm vm₁) (cT 5) (cT 1) n.toNatClampNeg j.toNatClampNeg (defaultValue .int) n.toNatClampNeg i hi
    rw [hF, hTh] at this
    rw [this, ← arrV_new]
    rfl
  rw [zz_outer] at f2
  have z1 : F.heap.size = H.size + (1 + n.toNatClampNeg) := by rw [f1]; omega
  have hWn : zz_W base b D cT (zz_pm M n.toNatClampNeg j.toNatClampNeg) I J F.heap := by
    refine ⟨by rw [z1, hW.1]; show _ = base + (M.1 + 1 + n.toNatClampNeg); omega, fun q hq => ?_⟩
    have hq : q < M.1 + 1 + n.toNatClampNeg := hq
    by_cases c1 : q < M.1
    · show va_at D zz_cl (base + q, zz_E _ _ (if q + 1 = M.1 + 1 then _ else if M.1 + 2 ≤ q + 1 ∧ q + 1 < M.1 + 2 + n.toNatClampNeg then _ else M.2 (q + 1)) _ _) F.heap
      rw [if_neg (by omega), if_neg (by omega)]
      exact (hW.2 q c1).kept (hold _ (by rw [hW.1]; omega))
    · by_cases c2 : q = M.1
      · subst c2
        show va_at D zz_cl (base + M.1, zz_E _ _ (if M.1 + 1 = M.1 + 1 then _ else _) _ _) F.heap
        rw [if_pos rfl, zz_E5 rfl]
        show F.heap[base + M.1]? = some (vp_cell _ _)
        rw [← hW.1, f2, vp_cell_q]
        congr 2
        funext i
        by_cases hi : i < n.toNatClampNeg
        · simp only [hi, if_true, Option.map_some]
          congr 2
          rw [show M.1 + 2 + i = (M.1 + 1 + i) + 1 by omega]
          show H.size + 1 + i = base + (M.1 + 1 + i)
          rw [hW.1]
          omega
        · simp only [hi, if_false, Option.map_none]
      · show va_at D zz_cl (base + q, zz_E _ _ (if q + 1 = M.1 + 1 then _ else if M.1 + 2 ≤ q + 1 ∧ q + 1 < M.1 + 2 + n.toNatClampNeg then _ else M.2 (q + 1)) _ _) F.heap
        rw [if_neg (by omega), if_pos (by omega), zz_E1 rfl, hI (q + 1) (by omega)]
        show F.heap[base + q]? = some (vp_cell _ _)
        rw [show base + q = H.size + 1 + (q - M.1 - 1) by rw [hW.1]; omega, hrow _ (by omega)]
        rfl
  have hX' : zz_X base b (zz_pm M n.toNatClampNeg j.toNatClampNeg) I t0 F.heap := by
    refine hX.kept ?_ rfl (fun q hq => hold q (by rw [hW.1]; omega))
    unfold zz_pm
    dsimp only
    rw [if_neg (by omega), if_neg (by omega)]
  have hg := kk p l e R t0 m args below meth c Z base b D cT F.heap locs arr ⟨hC, hZ, hkk, hL, hWn, hX', zz_S_push hS z1 hold⟩
  obtain ⟨t, a1, bb1⟩ := hg F rfl (stand_widen X' (by omega) (by omega))
  refine ⟨t, step t ?_, bb1⟩
  have e9 : T.heap.size = zz_ad base b (M.1 + 1) := by rw [hT]; exact hW.1
  rw [e9]
  exact a1
end ZK
