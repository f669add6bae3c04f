/-! ===== rows: fields and arrays ===== -/
def zz_ui (I : zz_I) (a j : Nat) (x : Int32) : zz_I := fun c => if c = a then upd (I a) j x else I c
def zz_uj (J : zz_J) (a j : Nat) (x : Int64) : zz_J := fun c => if c = a then vp_updL (J a) j x else J c
theorem zz_ui_at (I : zz_I) (a j : Nat) (x : Int32) : zz_ui I a j x a = upd (I a) j x := if_pos rfl
theorem zz_ui_ne (I : zz_I) {a c : Nat} (j : Nat) (x : Int32) (h : c ≠ a) : zz_ui I a j x c = I c := if_neg h
theorem zz_uj_at (J : zz_J) (a j : Nat) (x : Int64) : zz_uj J a j x a = vp_updL (J a) j x := if_pos rfl
theorem zz_uj_ne (J : zz_J) {a c : Nat} (j : Nat) (x : Int64) (h : c ≠ a) : zz_uj J a j x c = J c := if_neg h
theorem zz_E0 {ad : Nat → Nat} {cT : Nat → ClassId} {S : zz_S} {i : Nat → Int32} {j : Nat → Int64} {ci : Nat} (h : S.1 = 0) (hc : S.2.1 = ci) : zz_E ad cT S i j = .inr (ci, (List.range (zz_nf ci)).map fun k => zz_fv ad (zz_ty ci k) (i k) (j k) (S.2.2 k)) := by
  obtain ⟨t, n, r⟩ := S
  subst h; subst hc
  rfl
theorem zz_E1 {ad : Nat → Nat} {cT : Nat → ClassId} {S : zz_S} {i : Nat → Int32} {j : Nat → Int64} (h : S.1 = 1) : zz_E ad cT S i j = .inl (cT 1, S.2.1, .inl i) := by
  obtain ⟨t, n, r⟩ := S
  subst h
  rfl
theorem zz_E2 {ad : Nat → Nat} {cT : Nat → ClassId} {S : zz_S} {i : Nat → Int32} {j : Nat → Int64} (h : S.1 = 2) : zz_E ad cT S i j = .inl (cT 2, S.2.1, .inr (.inl j)) := by
  obtain ⟨t, n, r⟩ := S
  subst h
  rfl
theorem zz_E3 {ad : Nat → Nat} {cT : Nat → ClassId} {S : zz_S} {i : Nat → Int32} {j : Nat → Int64} (h : S.1 = 3) : zz_E ad cT S i j = .inl (cT 3, S.2.1, .inl i) := by
  obtain ⟨t, n, r⟩ := S
  subst h
  rfl
theorem zz_E4 {ad : Nat → Nat} {cT : Nat → ClassId} {S : zz_S} {i : Nat → Int32} {j : Nat → Int64} (h : S.1 = 4) : zz_E ad cT S i j = .inl (cT 4, S.2.1, .inr (.inr (.inr (.inr (fun k => (S.2.2 k).map ad))))) := by
  obtain ⟨t, n, r⟩ := S
  subst h
  rfl
theorem zz_E5 {ad : Nat → Nat} {cT : Nat → ClassId} {S : zz_S} {i : Nat → Int32} {j : Nat → Int64} (h : S.1 = 5) : zz_E ad cT S i j = .inl (cT 5, S.2.1, .inr (.inr (.inr (.inr (fun k => (S.2.2 k).map ad))))) := by
  obtain ⟨t, n, r⟩ := S
  subst h
  rfl
/-- the cell a of the world -/
theorem zz_W.at {base b : Nat} {D : va_G} {cT : Nat → ClassId} {M : zz_M} {I : zz_I} {J : zz_J} {H : Heap} {a : Nat} (h : zz_W base b D cT M I J H) (h0 : 0 < a) (hN : a ≤ M.1) : va_at D zz_cl (zz_ad base b a, zz_E (zz_ad base b) cT (M.2 a) (I a) (J a)) H := by
  obtain ⟨j, rfl⟩ : ∃ j, a = j + 1 := ⟨a - 1, by omega⟩
  exact h.2 j (by omega)
theorem zz_P1 {D : va_G} {q : Nat × va_E} {H : Heap} (h : va_at D zz_cl q H) : va_P D zz_cl [q] H := by
  intro k x hx
  have hz : k < 1 := (List.getElem?_eq_some_iff.mp hx).1
  rw [show k = 0 by omega] at hx
  cases hx
  exact h
/-- one cell has changed -/
theorem zz_W.set {base b : Nat} {D : va_G} {cT : Nat → ClassId} {M M' : zz_M} {I I' : zz_I} {J J' : zz_J} {H H' : Heap} {a : Nat} (h : zz_W base b D cT M I J H) (h0 : 0 < a) (hz : H'.size = H.size) (ho : ∀ q, q ≠ zz_ad base b a → H'[q]? = H[q]?) (hM : M'.1 = M.1)
    (hoth : ∀ c, c ≠ a → M'.2 c = M.2 c ∧ I' c = I c ∧ J' c = J c) (hat : va_at D zz_cl (zz_ad base b a, zz_E (zz_ad base b) cT (M'.2 a) (I' a) (J' a)) H') : zz_W base b D cT M' I' J' H' := by
  refine ⟨by rw [hz, hM]; exact h.1, fun k hk => ?_⟩
  rw [hM] at hk
  by_cases e : k + 1 = a
  · subst e
    exact hat
  · obtain ⟨e1, e2, e3⟩ := hoth (k + 1) e
    rw [e1, e2, e3]
    refine (h.2 k hk).kept (ho _ ?_)
    obtain ⟨j, rfl⟩ : ∃ j, a = j + 1 := ⟨a - 1, by omega⟩
    show base + k ≠ base + j
    omega
theorem zz_X.kept {base b : Nat} {M M' : zz_M} {I I' : zz_I} {U : State} {H H' : Heap} (h : zz_X base b M I U H) (hM : M'.2 0 = M.2 0) (hI : I' 0 = I 0) (hq : ∀ q, q < base → H'[q]? = H[q]?) : zz_X base b M' I' U H' := by
  refine ⟨h.1, by rw [hM]; exact h.2.1, ?_⟩
  rw [hM, hI]
  exact h.2.2.kept (hq b h.1)
theorem zz_ad_ge {base b a : Nat} (h : 0 < a) : base ≤ zz_ad base b a := by
  obtain ⟨j, rfl⟩ : ∃ j, a = j + 1 := ⟨a - 1, by omega⟩
  exact Nat.le_add_right _ _
theorem zz_V {n j : Nat} (g : Nat → Value) (h : j < n) : vp_V ((List.range n).map g) j = g j := by
  simp [vp_V, h]
/-- a field's number: in the class ci the place f -/
def zz_fd (own : String) (idx ci f : Nat) : Prop := ∃ q : vw_C, zz_cl[ci]? = some q ∧ f < q.2.2 ∧ Cond.fieldLink own idx q.1 (q.2.1 f).2.1 (q.2.1 f).2.2.1 ∈ zz_tbl
section ZM
variable {p : Program} {l : Launch} {e : Env} {R : Room} {t0 : State} {m : MethodId} {args : Array Value} {below : List Frame} {meth : Method} {c : Code} {Z : State → Prop} {base b : Nat} {D : va_G} {cT : Nat → ClassId} {H : Heap} {locs : List Loc} {arr : Array Slot}
variable {y : zz_Y} {d k n pc : Nat} {rest : List Value} {M : zz_M} {I : zz_I} {J : zz_J}
theorem zz_getW (hC : zz_C y d p R t0 m args meth c base D cT) (hW : zz_W base b D cT M I J H) {a ci f idx : Nat} (hd : decode y.2.1 pc = .ok (.getfield idx, 3)) (hf : zz_fd y.1.cls idx ci f) (hs : zz_is M a 0 ci) {v : Value} (hv : zz_fv (zz_ad base b) (zz_ty ci f) (I a f) (J a f) ((M.2 a).2.2 f) = v)
    (kk : W p l e R t0 m args below meth c H locs k n Z (F0 m (pc + 3) arr (v :: rest))) : W p l e R t0 m args below meth c H locs k n Z (F0 m pc arr (.ref (zz_ad base b a) :: rest)) := by
  obtain ⟨q, hq, hlt, hw⟩ := hf
  obtain ⟨C, T, N⟩ := q
  obtain ⟨ok1, ok2, ok3, ok4, ok5⟩ := zz_oks ci _ hq
  have hP := zz_P1 (hW.at hs.1 hs.2.1)
  rw [zz_E0 hs.2.2.1 hs.2.2.2] at hP
  have hlt' : f < zz_nf ci := by rw [← ok1]; exact hlt
  refine va_get (C := C) (T := T) (N := N) (ref := C) hC.1 hC.2.1 hC.2.2.2.2.1 ok2 hC.2.2.2.1 hC.2.2.2.2.2.1.1 hP 0 rfl hq f hlt (hC.2.2.2.2.1 _ hw) (fun x hx => by rw [show (T f).1 = C from ok5 f hlt] at hx; exact hx) (v := v) ?_ hd kk
  simp [hlt', hv]
theorem zz_putW (hC : zz_C y d p R t0 m args meth c base D cT) (hW : zz_W base b D cT M I J H) (hS : va_S (fun q => base ≤ q) t0.heap H locs) {a ci f idx : Nat} (hd : decode y.2.1 pc = .ok (.putfield idx, 3)) (hf : zz_fd y.1.cls idx ci f) (hs : zz_is M a 0 ci) {v : Value}
    (hfit : fits (zz_ty ci f) v = true) (hn : narrow (zz_ty ci f) v = v) (hfin : ∀ q : vw_C, zz_cl[ci]? = some q → (q.2.1 f).2.2.2 = false ∨ ((q.2.1 f).2.2.2 = true ∧ y.1.name = "<init>" ∧ q.1 = y.1.cls)) {M' : zz_M} {I' : zz_I} {J' : zz_J} (hM : M'.1 = M.1) (hoth : ∀ c, c ≠ a → M'.2 c = M.2 c ∧ I' c = I c ∧ J' c = J c) (hsh : (M'.2 a).1 = 0 ∧ (M'.2 a).2.1 = ci)
    (hval : ∀ j, j < zz_nf ci → (if j = f then v else zz_fv (zz_ad base b) (zz_ty ci j) (I a j) (J a j) ((M.2 a).2.2 j)) = zz_fv (zz_ad base b) (zz_ty ci j) (I' a j) (J' a j) ((M'.2 a).2.2 j))
    (kk : ∀ (H' : Heap) (locs' : List Loc), zz_W base b D cT M' I' J' H' → va_S (fun q => base ≤ q) t0.heap H' locs' → (∀ q, q < base → H'[q]? = H[q]?) → W p l e R t0 m args below meth c H' locs' k n Z (F0 m (pc + 3) arr rest)) : W p l e R t0 m args below meth c H locs k n Z (F0 m pc arr (v :: .ref (zz_ad base b a) :: rest)) := by
  obtain ⟨q, hq, hlt, hw⟩ := hf
  have hfin := hfin q hq
  obtain ⟨C, T, N⟩ := q
  obtain ⟨ok1, ok2, ok3, ok4, ok5⟩ := zz_oks ci _ hq
  have hts := hC.2.2.2.2.1
  have hK := hC.2.2.2.2.2.1.1
  have hap := va_apart (own := y.1.cls) hts ok2 (zz_ty ci) ok3 ok4 hK hq
  have hat := hW.at hs.1 hs.2.1
  rw [zz_E0 hs.2.2.1 hs.2.2.2] at hat
  obtain ⟨r, h1, cell, q1, q2, q3, q4⟩ := hat
  have hr : r = (C, T, N) := Option.some.inj (h1.symm.trans hq)
  subst hr
  obtain ⟨hSl, hfc, kC, hkC, hkind⟩ := hK.1 ci _ hq
  obtain ⟨cf, kf, fi, fd, hi, hsl⟩ := hSl f hlt
  have hC5 : (T f).1 = C := ok5 f hlt
  have hi' : t0.fieldFound? C (T f).2.1 (T f).2.2.1 = some (cf, kf, fi, fd) := by have := hi; rw [show ((C, T, N) : vw_C).2.1 = T from rfl] at this; rw [hC5] at this; exact this
  have hst := (u_facts hfc hkC (u_lays hts ok2 hlt) hi).1
  have hlay := hts _ (ok2 _ (u_in_lay hlt))
  unfold u_lay at hlay
  have hcont : ∀ H' : Heap, H'[zz_ad base b a]? = some (cell.setSlot fd.slot v) → H'.size = H.size → (∀ q, q ≠ zz_ad base b a → H'[q]? = H[q]?) → W p l e R t0 m args below meth c H' (locs ++ [⟨zz_ad base b a, fd.slot⟩]) k n Z (F0 m (pc + 3) arr rest) := by
    intro H' e1 e2 e3
    refine kk H' _ (hW.set hs.1 e2 e3 hM hoth ?_) (hS.put e2 e3 (zz_ad_ge hs.1)) (fun q hq' => e3 q (fun e => by have := zz_ad_ge (base := base) (b := b) hs.1; omega))
    rw [zz_E0 hsh.1 hsh.2]
    rw [hsl] at e1
    refine ⟨_, hq, t_OB.to (V := updV (vp_V _) f v) ⟨_, e1, q2, q3, t_set q4 hap hlt v⟩ (fun j hj => ?_)⟩
    have hj' : j < zz_nf ci := by rw [← ok1]; exact hj
    rw [zz_V _ hj', ← hval j hj']
    unfold updV
    by_cases e : j = f
    · simp [e]
    · rw [if_neg e, if_neg e, zz_V _ hj']
  rcases hfin with hfin | ⟨hfin, hin2, hdecl⟩
  · rw [if_neg (by rw [show (T f).2.2.2 = false from hfin]; decide)] at hlay
    have h6 := u_store hfc hkC hkind hlay hi (ok3 f hlt) hn hfit
    exact W.putK hC.1 hC.2.1 (f := fd) ⟨hC.2.2.2.1, hts _ hw, ⟨_, _, _, hi'⟩, hst⟩ (by rw [q2]; exact h6) q1 q3 (by rw [hsl]; exact k2_hasslot (q4 f hlt)) rfl rfl hd hcont
  · rw [if_pos (show (T f).2.2.2 = true from hfin)] at hlay
    have hcf : m.cls = cf := by
      obtain ⟨_, _, c', _, _, _, -, -, hf', -, -, -, hown2, -⟩ := Cond.laysFinal_spec hlay
      have e1 : c' = cf := by have := hi.symm.trans hf'; simp at this; exact this.1.symm
      rw [show ((C, T, N) : vw_C).2.1 = T from rfl] at hown2
      rw [hC5, show C = y.1.cls from hdecl] at hown2
      rw [← e1]
      exact Option.some.inj (hC.2.2.2.1.symm.trans hown2)
    have h6 := u_fits hfc hkC hkind (Or.inr hlay) hi (ok3 f hlt) hn hfit
    exact W.putFinK hC.1 hC.2.1 hC.2.2.2.1 (hts _ hw) hi' hst hcf (hC.2.2.2.2.2.2.2.2.2.2.2 hin2) (by rw [q2]; exact h6) q1 q3 (by rw [hsl]; exact k2_hasslot (q4 f hlt)) rfl rfl hd hcont
end ZM
