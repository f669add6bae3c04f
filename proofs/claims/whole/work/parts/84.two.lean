/-! ===== two calls agree: those that change nothing that shows ===== -/
/-- so many tries at the most -/
def RT (J : zz_J) (m : Nat) : Prop := ∃ t, t ≤ m ∧ RTe J t
theorem RT.up {J : zz_J} {m : Nat} (h : RT J m) : RT J (m + 600) := by
  obtain ⟨t, a, b⟩ := h
  exact ⟨t, by omega, b⟩
theorem RT.of {J J' : zz_J} {m : Nat} (h : RT J m) (h10 : J' 10 = J 10) (h15 : J' 15 = J 15) : RT J' (m + 600) := by
  obtain ⟨t, a, b⟩ := h
  exact ⟨t, by omega, b.of h10 h15⟩
def TWO (mA : zz_Y) (dA : Nat) (asA : List Value) (mB : zz_Y) (dB : Nat) (asB : List Value) (M : zz_M) (I : zz_I) (J : zz_J) (mT : Nat) : Prop := ∀ P : zz_Q, (∀ (r : Int32) (I1 : zz_I) (J1 : zz_J), (∀ Q : zz_Q, (∀ (I2 : zz_I) (J2 : zz_J), REL I2 → I2 0 = I 0 → RT J2 (mT + 600) → Q (some (.int r)) M I2 J2) → zz_D mB dB asB M I1 J1 Q) → I1 0 = I 0 → P (some (.int r)) M I1 J1) → zz_D mA dA asA M I J P
section Lns
variable {I : zz_I} {n : Nat → Nat} {kd ag : Nat → Int32} {E : Nat → Nat → Nat → Bool} {sg : Nat → Nat → Int32} {rw : Nat → Nat → Nat → Int32}
theorem LNS.nn (h : LNS I n kd ag E sg rw) : ∀ j, j < 8 → 1 ≤ n j ∧ n j ≤ 24 := fun j hj => ⟨(h j hj).1.1, (h j hj).1.2.1⟩
theorem LNS.n2 (h : LNS I n kd ag E sg rw) : ∀ j, j < 8 → n j ≤ 24 := fun j hj => (h j hj).1.2.1
theorem LNS.e (h : LNS I n kd ag E sg rw) : ∀ j, j < 8 → wfE (n j) (E j) := fun j hj => (h j hj).1.2.2.1
theorem LNS.r (h : LNS I n kd ag E sg rw) : ∀ j, j < 8 → rok (rw j) := fun j hj => (h j hj).1.2.2.2.1
theorem LNS.s (h : LNS I n kd ag E sg rw) : ∀ j, j < 8 → ∀ a, a < n j → ∀ i, 24 ≤ i → bt (sg j a) i = false := fun j hj => (h j hj).1.2.2.2.2
theorem LNS.c (h : LNS I n kd ag E sg rw) : ∀ j, j < 8 → CL I j (n j) (kd j) (ag j) (E j) (sg j) (rw j) := fun j hj => (h j hj).2.1
theorem LNS.m (h : LNS I n kd ag E sg rw) : ∀ j, j < 8 → ML I j (n j) (kd j) (ag j) (E j) (sg j) (rw j) := fun j hj => (h j hj).2.2
theorem LNS.mo {I' : zz_I} (h : LNS I n kd ag E sg rw) (hc : ∀ c, 259 ≤ c → I' c = I c) : ∀ j, j < 8 → ML I' j (n j) (kd j) (ag j) (E j) (sg j) (rw j) := fun j hj => ML_of (fun c h1 _ => hc c (by omega)) (h.m j hj)
end Lns
theorem vin {l : Int32} {j : Nat} (hj : j < 8) (e : l = nI j) : vp_in l 8 := by rw [e]; exact vp_in_nI hj (by decide)
def abR (w : Int32) (n : Nat) (kd : Int32) (E : Nat → Nat → Bool) (sg : Nat → Int32) (r : Int32) : Prop :=
  (w.toInt = 0 ∧ r = nI n) ∨ (w.toInt = 1 ∧ r = kd) ∨ (w.toInt = 3 ∧ r = nI (fb_sm (fun a => fb_ct (E a) 32) n) / 2) ∨ (w.toInt = 4 ∧ r = nI (fb_ct (bt (orS sg n)) 32)) ∨ (∃ a : Nat, a < n ∧ w.toInt = 10 + a ∧ ∀ b, b < 32 → bt r b = E a b) ∨ (∃ a : Nat, a < n ∧ w.toInt = 40 + a ∧ kd = 1 ∧ r = sg a) ∨ (¬ w.toInt = 0 ∧ ¬ w.toInt = 1 ∧ ¬ w.toInt = 3 ∧ ¬ w.toInt = 4 ∧ (¬ ∃ a : Nat, a < n ∧ w.toInt = 10 + a) ∧ (¬ (kd = 1 ∧ ∃ a : Nat, a < n ∧ w.toInt = 40 + a)) ∧ r = -1)
theorem abR_one {w : Int32} {n : Nat} {kd : Int32} {E : Nat → Nat → Bool} {sg : Nat → Int32} {r r' : Int32} (hn : n ≤ 24) (h : abR w n kd E sg r) (h' : abR w n kd E sg r') : r = r' := by
  rcases h with ⟨a1, a2⟩ | ⟨a1, a2⟩ | ⟨a1, a2⟩ | ⟨a1, a2⟩ | ⟨a, a1, a2, a3⟩ | ⟨a, a1, a2, a3, a4⟩ | ⟨a1, a2, a3, a4, a5, a6, a7⟩ <;> rcases h' with ⟨b1, b2⟩ | ⟨b1, b2⟩ | ⟨b1, b2⟩ | ⟨b1, b2⟩ | ⟨b, b1, b2, b3⟩ | ⟨b, b1, b2, b3, b4⟩ | ⟨b1, b2, b3, b4, b5, b6, b7⟩ <;> first | (rw [a2, b2]; done) | (exfalso; omega) | (rw [a7, b7]; done) | (exact (b5 (Exists.intro a (And.intro a1 a2))).elim) | (exact (a5 (Exists.intro b (And.intro b1 b2))).elim) | (exact (b6 (And.intro a3 (Exists.intro a (And.intro a1 a2)))).elim) | (exact (a6 (And.intro b3 (Exists.intro b (And.intro b1 b2)))).elim) | (obtain rfl : a = b := (by omega); first | (rw [a4, b4]; done) | exact b_ext (fun i hi => (a3 i hi).trans (b3 i hi).symm))
theorem nI_ti {a : Nat} {w : Int32} (ha : a < 2 ^ 31) : w = nI a ↔ w.toInt = a := by
  constructor
  · intro e; rw [e, nI_toInt ha]
  · intro e; exact Int32.toInt_inj.mp (by rw [e, nI_toInt ha])
section Two
variable {M : zz_M} {I : zz_I} {J : zz_J} {mT : Nat}
theorem two_sent (d : Nat) (hO : OK M) (hR : REL I) (hm : mT ≤ 400000) (hT : RT J mT) : TWO mX9_sent (d + 71) [.ref 1] mX10_sent (d + 71) [.ref 259] M I J mT := by
  intro P hP
  refine sp_X9_sent _ hO (hP _ I J (fun Q hQ => sp_X10_sent _ hO ?_) rfl)
  rw [show I 259 29 = I 1 12 from hR.2.2.2.2.2.1]
  exact hQ I J hR rfl hT.up
theorem two_listed (d : Nat) (hO : OK M) (hR : REL I) (hm : mT ≤ 400000) (hT : RT J mT) : TWO mX9_listed (d + 71) [.ref 1] mX10_listed (d + 71) [.ref 259] M I J mT := by
  intro P hP
  refine sp_X9_listed _ hO (hP _ I J (fun Q hQ => sp_X10_listed _ hO ?_) rfl)
  rw [show I 259 30 = I 1 13 from hR.2.2.2.2.2.2]
  exact hQ I J hR rfl hT.up
theorem two_fault (d : Nat) (hO : OK M) (hR : REL I) (hm : mT ≤ 400000) (hT : RT J mT) {w : Int32} : TWO mX9_fault (d + 71) [.ref 1, .int w] mX10_fault (d + 71) [.ref 259, .int w] M I J mT := by
  intro P hP
  refine sp_X9_fault _ hO (hP _ I J (fun Q hQ => sp_X10_fault _ hO ?_) rfl)
  rw [hR.2.2.1.1, hR.2.2.1.2]
  exact hQ I J hR rfl hT.up
theorem two_count (d : Nat) (hO : OK M) (hR : REL I) (hm : mT ≤ 400000) (hT : RT J mT) {w : Int32} : TWO mX9_count (d + 71) [.ref 1, .int w] mX10_count (d + 71) [.ref 259, .int w] M I J mT := by
  intro P hP
  obtain ⟨tn, t1, t2, t3, -⟩ := hR.2.1
  obtain ⟨sz, k, ws, c1, c2, c3, c4, c5, c6, c7, c8⟩ := hR.2.2.2.1
  have e15 : (if I 24 1 ≤ 0 then (-1 : Int32) else I 24 1) = I 259 15 := by
    rcases c8 with ⟨z1, z2, -⟩ | ⟨z1, z2, -⟩
    · rw [c3, z1, z2]; rfl
    · rw [c3, z2, if_neg (nI_nle (by omega) (by omega))]
  refine sp_X9_count _ hO (hP _ I J (fun Q hQ => sp_X10_count _ hO ?_) rfl)
  rw [t3, ← t2, c5, c6, ← e15]
  exact hQ I J hR rfl hT.up
theorem two_word (d : Nat) (hO : OK M) (hR : REL I) (hm : mT ≤ 400000) (hT : RT J mT) {i : Int32} : TWO mX9_word (d + 71) [.ref 1, .int i] mX10_word (d + 71) [.ref 259, .int i] M I J mT := by
  intro P hP
  obtain ⟨sz, k, ws, c1, c2, c3, c4, c5, c6, c7, c8⟩ := hR.2.2.2.1
  have h15 : I 259 15 = nI sz ∨ (I 259 15 = -1 ∧ sz = 0) := c8.elim (fun z => Or.inr ⟨z.2.1, z.1⟩) (fun z => Or.inl z.2.1)
  refine sp_X9_word _ hO c3 c1 (fun j hj e => hP _ I J (fun Q hQ => sp_X10_word (d + 70) hO h15 c1 (fun j' hj' e' => ?_) (fun hv => ?_)) rfl) (fun hv => hP _ I J (fun Q hQ => sp_X10_word (d + 70) hO h15 c1 (fun j' hj' e' => ?_) (fun _ => hQ I J hR rfl hT.up)) rfl)
  · have := nI_inj (by omega) (by omega) (e.symm.trans e')
    subst this
    rw [(c4 j hj).2.2, ← (c4 j hj).2.1]
    exact hQ I J hR rfl hT.up
  · exact absurd (by rw [e]; exact vp_in_nI hj (by omega)) hv
  · exact absurd (by rw [e']; exact vp_in_nI hj' (by omega)) hv
theorem two_heap (d : Nat) (hO : OK M) (hR : REL I) (hm : mT ≤ 400000) (hT : RT J mT) {i : Int32} : TWO mX9_heap (d + 71) [.ref 1, .int i] mX10_heap (d + 71) [.ref 259, .int i] M I J mT := by
  intro P hP
  obtain ⟨h, c1, c2, c3, c4⟩ := hR.2.2.2.2.1
  refine sp_X9_heap _ hO c2 c1 (fun j hj e => hP _ I J (fun Q hQ => sp_X10_heap (d + 70) hO c3 c1 (fun j' hj' e' => ?_) (fun hv => ?_)) rfl) (fun hv => hP _ I J (fun Q hQ => sp_X10_heap (d + 70) hO c3 c1 (fun j' hj' e' => ?_) (fun _ => hQ I J hR rfl hT.up)) rfl)
  · have := nI_inj (by omega) (by omega) (e.symm.trans e')
    subst this
    rw [← c4 j hj]
    exact hQ I J hR rfl hT.up
  · exact absurd (by rw [e]; exact vp_in_nI hj (by omega)) hv
  · exact absurd (by rw [e']; exact vp_in_nI hj' (by omega)) hv
theorem two_stands (d : Nat) (hO : OK M) (hR : REL I) (hm : mT ≤ 400000) (hT : RT J mT) {l : Int32} : TWO mX9_stands (d + 71) [.ref 1, .int l] mX10_stands (d + 71) [.ref 259, .int l] M I J mT := by
  intro P hP
  obtain ⟨n, kd, ag, E, sg, rw, hl⟩ := hR.1
  refine sp_X9_stands (d + 69) hO hl.n2 hl.c (fun j hj e => hP _ I J (fun Q hQ => sp_X10_stands (d + 69) hO hl.n2 hl.m (fun j' hj' e' => ?_) (fun hv => absurd (vin hj e) hv)) rfl) (fun hv => hP _ I J (fun Q hQ => sp_X10_stands (d + 69) hO hl.n2 hl.m (fun j' hj' e' => absurd (vin hj' e') hv) (fun _ => hQ I J hR rfl hT.up)) rfl)
  have := n8 hj hj' (e.symm.trans e')
  subst this
  exact hQ I J hR rfl hT.up
theorem two_about (d : Nat) (hO : OK M) (hR : REL I) (hm : mT ≤ 400000) (hT : RT J mT) {l w : Int32} : TWO mX9_about (d + 71) [.ref 1, .int l, .int w] mX10_about (d + 71) [.ref 259, .int l, .int w] M I J mT := by
  intro P hP
  obtain ⟨n, kd, ag, E, sg, rw, hl⟩ := hR.1
  have t10 : ∀ a j : Nat, j < 8 → a < n j → (w = nI (10 + a) ↔ w.toInt = 10 + a) := fun a j hj ha => by have := hl.n2 j hj; rw [nI_ti (by omega)]; omega
  have t40 : ∀ a j : Nat, j < 8 → a < n j → (w = nI (40 + a) ↔ w.toInt = 40 + a) := fun a j hj ha => by have := hl.n2 j hj; rw [nI_ti (by omega)]; omega
  have t0 : w = 0 ↔ w.toInt = 0 := nI_ti (a := 0) (by decide)
  have t1 : w = 1 ↔ w.toInt = 1 := nI_ti (a := 1) (by decide)
  have t3 : w = 3 ↔ w.toInt = 3 := nI_ti (a := 3) (by decide)
  have t4 : w = 4 ↔ w.toInt = 4 := nI_ti (a := 4) (by decide)
  have hxx : ∀ j, j < 8 → ¬ w = 0 → ¬ w = 1 → ¬ w = 3 → ¬ w = 4 → ¬ (∃ a, a < n j ∧ w = nI (10 + a)) → ¬ (kd j = 1 ∧ ∃ a, a < n j ∧ w = nI (40 + a)) → abR w (n j) (kd j) (E j) (sg j) (-1) := fun j hj a0 a1 a3 a4 a10 a40 =>
    Or.inr (Or.inr (Or.inr (Or.inr (Or.inr (Or.inr ⟨fun z => a0 (t0.mpr z), fun z => a1 (t1.mpr z), fun z => a3 (t3.mpr z), fun z => a4 (t4.mpr z), fun ⟨a, z1, z2⟩ => a10 ⟨a, z1, (t10 a j hj z1).mpr z2⟩, fun ⟨z0, a, z1, z2⟩ => a40 ⟨z0, a, z1, (t40 a j hj z1).mpr z2⟩, rfl⟩)))))
  have cls : ∀ (P : zz_Q), (∀ j r, j < 8 → l = nI j → abR w (n j) (kd j) (E j) (sg j) r → P (some (.int r)) M I J) → (¬ vp_in l 8 → P (some (.int (-1))) M I J) → zz_D mX9_about (d + 71) [.ref 1, .int l, .int w] M I J P := fun P hA hB =>
    sp_X9_about (d + 69) hO hl.n2 hl.c (fun j hj e z => hA j _ hj e (Or.inl ⟨t0.mp z, rfl⟩)) (fun j hj e z => hA j _ hj e (Or.inr (Or.inl ⟨t1.mp z, rfl⟩))) (fun j hj e z => hA j _ hj e (Or.inr (Or.inr (Or.inl ⟨t3.mp z, rfl⟩)))) (fun j hj e z => hA j _ hj e (Or.inr (Or.inr (Or.inr (Or.inl ⟨t4.mp z, rfl⟩))))) (fun j a r hj e ha z hb => hA j r hj e (Or.inr (Or.inr (Or.inr (Or.inr (Or.inl ⟨a, ha, (t10 a j hj ha).mp z, hb⟩)))))) (fun j a hj e ha z hk => hA j _ hj e (Or.inr (Or.inr (Or.inr (Or.inr (Or.inr (Or.inl ⟨a, ha, (t40 a j hj ha).mp z, hk, rfl⟩))))))) (fun j hj e a0 a1 a3 a4 a10 a40 => hA j _ hj e (hxx j hj a0 a1 a3 a4 a10 a40)) hB
  have mod : ∀ (P : zz_Q), (∀ j r, j < 8 → l = nI j → abR w (n j) (kd j) (E j) (sg j) r → P (some (.int r)) M I J) → (¬ vp_in l 8 → P (some (.int (-1))) M I J) → zz_D mX10_about (d + 71) [.ref 259, .int l, .int w] M I J P := fun P hA hB =>
    sp_X10_about (d + 69) hO hl.n2 hl.m hl.e hl.s (fun j hj e z => hA j _ hj e (Or.inl ⟨t0.mp z, rfl⟩)) (fun j hj e z => hA j _ hj e (Or.inr (Or.inl ⟨t1.mp z, rfl⟩))) (fun j hj e z => hA j _ hj e (Or.inr (Or.inr (Or.inl ⟨t3.mp z, rfl⟩)))) (fun j hj e z => hA j _ hj e (Or.inr (Or.inr (Or.inr (Or.inl ⟨t4.mp z, rfl⟩))))) (fun j a r hj e ha z hb => hA j r hj e (Or.inr (Or.inr (Or.inr (Or.inr (Or.inl ⟨a, ha, (t10 a j hj ha).mp z, hb⟩)))))) (fun j a hj e ha z hk => hA j _ hj e (Or.inr (Or.inr (Or.inr (Or.inr (Or.inr (Or.inl ⟨a, ha, (t40 a j hj ha).mp z, hk, rfl⟩))))))) (fun j hj e a0 a1 a3 a4 a10 a40 => hA j _ hj e (hxx j hj a0 a1 a3 a4 a10 a40)) hB
  refine cls P (fun j r hj e hA => hP r I J (fun Q hQ => mod Q (fun j' r' hj' e' hA' => ?_) (fun hv => absurd (vin hj e) hv)) rfl) (fun hv => hP _ I J (fun Q hQ => mod Q (fun j' r' hj' e' hA' => absurd (vin hj' e') hv) (fun _ => hQ I J hR rfl hT.up)) rfl)
  have := n8 hj hj' (e.symm.trans e')
  subst this
  rw [abR_one (hl.n2 j hj) hA' hA]
  exact hQ I J hR rfl hT.up
theorem two_taken (d : Nat) (hO : OK M) (hR : REL I) (hm : mT ≤ 400000) (hT : RT J mT) {l K V W : Int32} : TWO mX9_taken (d + 71) [.ref 1, .int l, .int K, .int V, .int W] mX10_taken (d + 71) [.ref 259, .int l, .int K, .int V, .int W] M I J mT := by
  intro P hP
  obtain ⟨n, kd, ag, E, sg, rw, hl⟩ := hR.1
  refine sp_X9_taken (d + 68) hO hl.nn hl.c (fun j k v w a1 a2 a3 a4 a5 a6 a7 a8 a9 a10 r hr => hP _ I J (fun Q hQ => sp_X10_taken (d + 68) hO hl.nn hl.m (fun j' k' v' w' b1 b2 b3 b4 b5 b6 b7 b8 b9 b10 r' hr' => ?_) (fun hv => absurd ⟨j, k, v, w, a1, a2, a3, a4, a5, a6, a7, a8, a9, a10⟩ hv)) rfl) (fun hv => hP _ I J (fun Q hQ => sp_X10_taken (d + 68) hO hl.nn hl.m (fun j' k' v' w' b1 b2 b3 b4 b5 b6 b7 b8 b9 b10 r' hr' => absurd ⟨j', k', v', w', b1, b2, b3, b4, b5, b6, b7, b8, b9, b10⟩ hv) (fun _ => hQ I J hR rfl hT.up)) rfl)
  have e1 := n8 a1 b1 (a7.symm.trans b7)
  subst e1
  have e2 := nI_inj (by omega) (by omega) (a8.symm.trans b8)
  subst e2
  have hp := pow_le6 (hl.n2 j a1) a3
  have e3 := nI_inj (by omega) (by omega) (a9.symm.trans b9)
  subst e3
  have e4 := nI_inj (by omega) (by omega) (a10.symm.trans b10)
  subst e4
  rw [hr'.uniq hr]
  exact hQ I J hR rfl hT.up
theorem two_ways (d : Nat) (hO : OK M) (hR : REL I) (hm : mT ≤ 400000) (hT : RT J mT) {l K : Int32} : TWO mX9_ways (d + 71) [.ref 1, .int l, .int K] mX10_ways (d + 71) [.ref 259, .int l, .int K] M I J mT := by
  intro P hP
  obtain ⟨n, kd, ag, E, sg, rw, hl⟩ := hR.1
  refine sp_X9_ways (d + 2) hO hl.nn hl.e hl.c (fun j k a1 a2 a3 a4 a5 a6 I1 J1 f1 f2 => hP _ I1 J1 (fun Q hQ => sp_X10_ways (d + 3) hO hl.nn hl.e (hl.mo (fun c hc => f1 c (by omega))) (fun j' k' b1 b2 b3 b4 b5 b6 I2 J2 g1 g2 g3 => ?_) (fun j' k' b1 b2 b3 b4 b5 b6 => ?_) (fun hv => absurd ⟨j, k, a1, a2, a3, a5, a6⟩ hv)) (f1 0 (by decide)))
    (fun j k a1 a2 a3 a4 a5 a6 => hP _ I J (fun Q hQ => sp_X10_ways (d + 3) hO hl.nn hl.e hl.m (fun j' k' b1 b2 b3 b4 b5 b6 I2 J2 g1 g2 g3 => ?_) (fun j' k' b1 b2 b3 b4 b5 b6 => hQ I J hR rfl hT.up) (fun hv => absurd ⟨j, k, a1, a2, a3, a5, a6⟩ hv)) rfl)
    (fun hv => hP _ I J (fun Q hQ => sp_X10_ways (d + 3) hO hl.nn hl.e hl.m (fun j' k' b1 b2 b3 b4 b5 b6 I2 J2 g1 g2 g3 => absurd ⟨j', k', b1, b2, b3, b5, b6⟩ hv) (fun j' k' b1 b2 b3 b4 b5 b6 => absurd ⟨j', k', b1, b2, b3, b5, b6⟩ hv) (fun _ => hQ I J hR rfl hT.up)) rfl)
  · have e1 := n8 a1 b1 (a5.symm.trans b5)
    subst e1
    have e2 := nI_inj (by omega) (by omega) (a6.symm.trans b6)
    subst e2
    have hN : NV I I2 := (NV.c (fun c hc => f1 c (by omega))).tr (NV.m (fun c c1 _ _ _ _ => g1 c c1) (fun i i1 _ _ => g2 i i1))
    exact hQ I2 J2 (hN.rel hR) hN.z (hT.of ((g3 10 (by decide)).trans (f2 10 (by decide))) ((g3 15 (by decide)).trans (f2 15 (by decide))))
  · have e1 := n8 a1 b1 (a5.symm.trans b5)
    subst e1
    have e2 := nI_inj (by omega) (by omega) (a6.symm.trans b6)
    subst e2
    exact absurd a4 b4
  · have e1 := n8 a1 b1 (a5.symm.trans b5)
    subst e1
    have e2 := nI_inj (by omega) (by omega) (a6.symm.trans b6)
    subst e2
    exact absurd b4 a4
theorem two_bound (d : Nat) (hO : OK M) (hR : REL I) (hm : mT ≤ 400000) (hT : RT J mT) {l w : Int32} : TWO mX9_bound (d + 71) [.ref 1, .int l, .int w] mX10_bound (d + 71) [.ref 259, .int l, .int w] M I J mT := by
  intro P hP
  obtain ⟨n, kd, ag, E, sg, rw, hl⟩ := hR.1
  refine sp_X9_bound (d + 68) hO hl.nn hl.r hl.c (fun j a1 a2 a3 a4 I1 f1 => hP _ I1 J (fun Q hQ => sp_X10_bound (d + 68) hO hl.nn hl.r (hl.mo (fun c hc => f1 c (by omega))) (fun j' b1 b2 b3 b4 I2 J2 g1 g2 g3 => ?_) (fun j' b1 b2 b3 b4 => ?_) (fun hv => absurd ⟨vin a1 a2, a3⟩ hv)) (f1 0 (by decide)))
    (fun j a1 a2 a3 a4 => hP _ I J (fun Q hQ => sp_X10_bound (d + 68) hO hl.nn hl.r hl.m (fun j' b1 b2 b3 b4 I2 J2 g1 g2 g3 => ?_) (fun j' b1 b2 b3 b4 => hQ I J hR rfl hT.up) (fun hv => absurd ⟨vin a1 a2, a3⟩ hv)) rfl)
    (fun hv => hP _ I J (fun Q hQ => sp_X10_bound (d + 68) hO hl.nn hl.r hl.m (fun j' b1 b2 b3 b4 I2 J2 g1 g2 g3 => absurd ⟨vin b1 b2, b3⟩ hv) (fun j' b1 b2 b3 b4 => absurd ⟨vin b1 b2, b3⟩ hv) (fun _ => hQ I J hR rfl hT.up)) rfl)
  · have e1 := n8 a1 b1 (a2.symm.trans b2)
    subst e1
    have hN : NV I I2 := (NV.c (fun c hc => f1 c (by omega))).tr (NV.m (fun c c1 _ _ _ _ => g1 c c1) (fun i _ i2 _ => g2 i i2))
    exact hQ I2 J2 (hN.rel hR) hN.z (hT.of (g3 10 (by decide)) (g3 15 (by decide)))
  · have e1 := n8 a1 b1 (a2.symm.trans b2)
    subst e1
    exact absurd a4 b4
  · have e1 := n8 a1 b1 (a2.symm.trans b2)
    subst e1
    exact absurd b4 a4
theorem two_compare (d : Nat) (hO : OK M) (hR : REL I) (hm : mT ≤ 400000) (hT : RT J mT) {s k t j : Int32} : TWO mX9_compare (d + 71) [.ref 1, .int s, .int k, .int t, .int j] mX10_compare (d + 71) [.ref 259, .int s, .int k, .int t, .int j] M I J mT := by
  intro P hP
  refine sp_X9_compare (d + 69) hO (fun hv => hP _ I J (fun Q hQ => sp_X10_compare (d + 69) hO (fun _ => hQ I J hR rfl hT.up) (fun s' k' t' j' b1 b2 b3 b4 b5 => absurd b5 hv)) rfl) (fun s' k' t' j' a1 a2 a3 a4 a5 a6 a7 a8 a9 J1 f1 => hP _ I J1 (fun Q hQ => sp_X10_compare (d + 69) hO (fun hv => absurd a5 hv) (fun s2 k2 t2 j2 b1 b2 b3 b4 b5 b6 b7 b8 b9 J2 g1 => ?_)) rfl)
  have e1 := nI_inj (by omega) (by omega) (a1.symm.trans b1)
  have e2 := nI_inj (by omega) (by omega) (a2.symm.trans b2)
  have e3 := nI_inj (by omega) (by omega) (a3.symm.trans b3)
  have e4 := nI_inj (by omega) (by omega) (a4.symm.trans b4)
  subst e1; subst e2; subst e3; subst e4
  exact hQ I J2 hR rfl (hT.of ((g1 10 (by decide) (by decide)).trans (f1 10 (by decide) (by decide))) ((g1 15 (by decide) (by decide)).trans (f1 15 (by decide) (by decide))))
theorem two_best (d : Nat) (hO : OK M) (hR : REL I) (hm : mT ≤ 400000) (hT : RT J mT) {l : Int32} : TWO mX9_best (d + 71) [.ref 1, .int l] mX10_best (d + 71) [.ref 259, .int l] M I J mT := by
  intro P hP
  obtain ⟨n, kd, ag, E, sg, rw, hl⟩ := hR.1
  refine sp_X9_best d hO hl.nn hl.e hl.c (fun j hj e I1 J1 f1 f2 => hP _ I1 J1 (fun Q hQ => sp_X10_best (d + 2) hO hl.nn hl.e (hl.mo (fun c hc => f1 c (by omega) (by omega))) (fun j' hj' e' I2 J2 g1 g2 g3 => ?_) (fun hv => absurd (vin hj e) hv)) (f1 0 (by decide) (by decide)))
    (fun hv => hP _ I J (fun Q hQ => sp_X10_best (d + 2) hO hl.nn hl.e hl.m (fun j' hj' e' => absurd (vin hj' e') hv) (fun _ => hQ I J hR rfl hT.up)) rfl)
  have e1 := n8 hj hj' (e.symm.trans e')
  subst e1
  have hN : NV I I2 := (NV.c (fun c hc => f1 c (by omega) (by omega))).tr (NV.m (fun c c1 _ _ _ _ => g1 c c1) (fun i i1 _ i3 => g2 i i1 i3))
  exact hQ I2 J2 (hN.rel hR) hN.z (hT.of ((g3 10 (by decide) (by decide) (by decide)).trans (f2 10 (by decide) (by decide) (by decide) (by decide))) ((g3 15 (by decide) (by decide) (by decide)).trans (f2 15 (by decide) (by decide) (by decide) (by decide))))
theorem two_met (d : Nat) (hO : OK M) (hR : REL I) (hm : mT ≤ 400000) (hT : RT J mT) {l : Int32} : TWO mX9_met (d + 71) [.ref 1, .int l] mX10_met (d + 71) [.ref 259, .int l] M I J mT := by
  intro P hP
  have hT' := hT
  obtain ⟨tt, htt, hTt⟩ := hT'
  obtain ⟨n, kd, ag, E, sg, rw, hl⟩ := hR.1
  refine sp_X9_met d hO hl.nn hl.e hl.r hl.c (tT := tt) (by omega) hTt (fun j hj e I1 J1 kk t1 f1 f2 f3 f4 => hP _ I1 J1 (fun Q hQ => sp_X10_met (d + 2) hO hl.nn hl.e hl.r (hl.mo (fun c hc => f1 c (by omega) (by omega) (by omega) (by omega) (by omega) (by omega) (by omega))) (fun j' hj' e' I2 J2 kk' g1 g2 g3 g4 => ?_) (fun hv => absurd (vin hj e) hv)) (f1 0 (by decide) (by decide) (by decide) (by decide) (by decide) (by decide) (by decide)))
    (fun hv => hP _ I J (fun Q hQ => sp_X10_met (d + 2) hO hl.nn hl.e hl.r hl.m (fun j' hj' e' => absurd (vin hj' e') hv) (fun _ => hQ I J hR rfl hT.up)) rfl)
  have e1 := n8 hj hj' (e.symm.trans e')
  subst e1
  have e2 := hp_N1 f4 g4
  subst e2
  have hN : NV I I2 := (NV.c (fun c hc => f1 c (by omega) (by omega) (by omega) (by omega) (by omega) (by omega) (by omega))).tr (NV.m (fun c c1 _ _ c4 c5 => g1 c c1 c4 c5) (fun i i1 i2 i3 => g2 i i1 i2 i3))
  exact hQ I2 J2 (hN.rel hR) hN.z ⟨t1, by omega, f3.of (g3 10 (by decide) (by decide) (by decide) (by decide)) (g3 15 (by decide) (by decide) (by decide) (by decide))⟩
end Two

