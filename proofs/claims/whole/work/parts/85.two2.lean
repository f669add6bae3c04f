/-! ===== two calls agree: those that change lines ===== -/
section Two2
variable {M : zz_M} {I : zz_I} {J : zz_J} {mT : Nat}
theorem LNj {j l : Nat} (h : l ≠ j) : LN l + 29 ≤ LN j ∨ LN j + 29 ≤ LN l := by unfold LN; omega
theorem CL_fr {I I' : zz_I} {j l n : Nat} {kd ag : Int32} {E : Nat → Nat → Bool} {sg : Nat → Int32} {rw : Nat → Nat → Int32} (hl : l < 8) (hne : l ≠ j) (h : ∀ c, 26 < c → c < 259 → (c < LN j ∨ LN j + 29 ≤ c) → I' c = I c) (hc : CL I l n kd ag E sg rw) : CL I' l n kd ag E sg rw := by
  have h2 := LNj hne
  have hL8 : 26 < LN l ∧ LN l + 28 < 259 := by unfold LN; omega
  refine ⟨?_, ?_, ?_, fun a ha b hb => ?_, fun a ha => ?_, fun a ha i hi => ?_⟩
  · rw [h _ (by omega) (by omega) (by omega)]; exact hc.1
  · rw [h _ (by omega) (by omega) (by omega)]; exact hc.2.1
  · rw [h _ (by omega) (by omega) (by omega)]; exact hc.2.2.1
  · rw [h _ (by omega) (by omega) (by omega)]; exact hc.2.2.2.1 a ha b hb
  · rw [h _ (by omega) (by omega) (by omega)]; exact hc.2.2.2.2.1 a ha
  · rw [h _ (by omega) (by omega) (by omega)]; exact hc.2.2.2.2.2 a ha i hi
/-- a line's change, both sides through: what is left of the relation -/
theorem LN_done {n : Nat → Nat} {kd ag : Nat → Int32} {E : Nat → Nat → Nat → Bool} {sg : Nat → Nat → Int32} {rw : Nat → Nat → Nat → Int32} {I1 I2 : zz_I} {j n' : Nat} {kd' ag' : Int32} {E' : Nat → Nat → Bool} {sg' : Nat → Int32} {rw' : Nat → Nat → Int32} (hR : REL I) (hl : LNS I n kd ag E sg rw) (hj : j < 8) (w' : wfl n' E' sg' rw') (f1 : ∀ c, c ≠ 7 → (c < LN j ∨ LN j + 29 ≤ c) → I1 c = I c) (c' : CL I1 j n' kd' ag' E' sg' rw') (g1 : ∀ c, c ≠ 268 → (c < 260 ∨ 265 < c) → I2 c = I1 c) (g2 : FO j I1 I2) (m' : ML I2 j n' kd' ag' E' sg' rw') : REL I2 ∧ I2 0 = I 0 := by
  have hL8 : 26 < LN j ∧ LN j + 28 < 259 := by unfold LN; omega
  refine ⟨REL_ln hR (RLn_set hl w' (CL_of (fun c h1 h2 => g1 c (by omega) (by omega)) hj c') m' (fun l hl8 hne => ⟨?_, ?_⟩)) (fun c hc => ?_), ?_⟩
  · exact CL_fr hl8 hne (fun c h1 h2 h3 => by rw [g1 c (by omega) (by omega)]; exact f1 c (by omega) h3) (hl.c l hl8)
  · exact g2.ML hl8 hne (ML_of (fun c h1 h2 => f1 c (by omega) (by omega)) (hl.m l hl8))
  · rw [g1 c (by omega) (by omega)]; exact f1 c (by omega) (by omega)
  · rw [g1 0 (by decide) (by decide)]; exact f1 0 (by decide) (by omega)
theorem FM.fo {j : Nat} {I I' : zz_I} (h : FM j I I') : FO j I I' := h.2
theorem two_net (d : Nat) (hO : OK M) (hR : REL I) (hm : mT ≤ 400000) (hT : RT J mT) {l k : Int32} : TWO mX9_net (d + 71) [.ref 1, .int l, .int k] mX10_net (d + 71) [.ref 259, .int l, .int k] M I J mT := by
  intro P hP
  obtain ⟨n, kd, ag, E, sg, rw, hl⟩ := hR.1
  refine sp_X9_net (d + 69) hO (fun j m a1 a2 a3 a4 a5 I1 f1 f2 => hP _ I1 J (fun Q hQ => sp_X10_net (d + 69) hO (fun j' m' b1 b2 b3 b4 b5 I2 g1 g2 => ?_) (fun hv => ?_)) (f1 0 (Or.inl (by unfold LN; omega)))) (fun hv => hP _ I J (fun Q hQ => sp_X10_net (d + 69) hO (fun j' m' b1 b2 b3 b4 b5 I2 g1 g2 => ?_) (fun _ => hQ I J hR rfl hT.up)) rfl)
  · have e1 := n8 a1 b1 (a4.symm.trans b4)
    subst e1
    have e2 := nI_inj (by omega) (by omega) (a5.symm.trans b5)
    subst e2
    have hL8 : 26 < LN j ∧ LN j + 28 < 259 := by unfold LN; omega
    rw [(hl.c j a1).2.2.1] at f2
    rw [f1 265 (by omega), (hl.m j a1).2.2.1] at g2
    obtain ⟨h1, h2⟩ := LN_done hR hl a1 ⟨a2, a3, wfE0 m, rok0, fun a _ i _ => b_0 i⟩ (fun c _ hc => f1 c hc) f2 (fun c _ hc => g1.1 c hc) g1.fo g2
    exact hQ I2 J h1 h2 hT.up
  · exact absurd ⟨vin a1 a4, by rw [a5]; exact nI_le (a := 1) a2 (by omega), by rw [a5]; exact nI_le (b := 24) a3 (by decide)⟩ hv
  · exact absurd ⟨vin b1 b4, by rw [b5]; exact nI_le (a := 1) b2 (by omega), by rw [b5]; exact nI_le (b := 24) b3 (by decide)⟩ hv
theorem two_ring (d : Nat) (hO : OK M) (hR : REL I) (hm : mT ≤ 400000) (hT : RT J mT) {l k : Int32} : TWO mX9_ring (d + 71) [.ref 1, .int l, .int k] mX10_ring (d + 71) [.ref 259, .int l, .int k] M I J mT := by
  intro P hP
  obtain ⟨n, kd, ag, E, sg, rw, hl⟩ := hR.1
  refine sp_X9_ring (d + 69) hO (fun j m a1 a2 a3 a4 a5 I1 f1 f2 => hP _ I1 J (fun Q hQ => sp_X10_ring (d + 69) hO (fun j' m' b1 b2 b3 b4 b5 I2 g1 g2 => ?_) (fun hv => ?_)) (f1 0 (Or.inl (by unfold LN; omega)))) (fun hv => hP _ I J (fun Q hQ => sp_X10_ring (d + 69) hO (fun j' m' b1 b2 b3 b4 b5 I2 g1 g2 => ?_) (fun _ => hQ I J hR rfl hT.up)) rfl)
  · have e1 := n8 a1 b1 (a4.symm.trans b4)
    subst e1
    have e2 := nI_inj (by omega) (by omega) (a5.symm.trans b5)
    subst e2
    have hL8 : 26 < LN j ∧ LN j + 28 < 259 := by unfold LN; omega
    rw [(hl.c j a1).2.2.1] at f2
    rw [f1 265 (by omega), (hl.m j a1).2.2.1] at g2
    obtain ⟨h1, h2⟩ := LN_done hR hl a1 ⟨by omega, a3, wfE_re a2, rok0, fun a _ i _ => b_0 i⟩ (fun c _ hc => f1 c hc) f2 (fun c _ hc => g1.1 c hc) g1.fo g2
    exact hQ I2 J h1 h2 hT.up
  · exact absurd ⟨vin a1 a4, by rw [a5]; exact nI_le (a := 3) a2 (by omega), by rw [a5]; exact nI_le (b := 24) a3 (by decide)⟩ hv
  · exact absurd ⟨vin b1 b4, by rw [b5]; exact nI_le (a := 3) b2 (by omega), by rw [b5]; exact nI_le (b := 24) b3 (by decide)⟩ hv
theorem two_mistake (d : Nat) (hO : OK M) (hR : REL I) (hm : mT ≤ 400000) (hT : RT J mT) {l A B on : Int32} (hon : on = 0 ∨ on = 1) : TWO mX9_mistake (d + 71) [.ref 1, .int l, .int A, .int B, .int on] mX10_mistake (d + 71) [.ref 259, .int l, .int A, .int B, .int on] M I J mT := by
  intro P hP
  obtain ⟨n, kd, ag, E, sg, rw, hl⟩ := hR.1
  refine sp_X9_mistake (d + 69) hO hon hl.n2 hl.c (fun j a b a1 a2 a3 a4 a5 a6 a7 => ?_) (fun hv => hP _ I J (fun Q hQ => sp_X10_mistake (d + 68) hO hon hl.n2 hl.m (fun j' a' b' b1 b2 b3 b4 b5 b6 b7 => absurd ⟨j', a', b', b1, b2, b3, b4, b5, b6, b7⟩ hv) (fun _ => hQ I J hR rfl hT.up)) rfl)
  have hnj := hl.n2 j a1
  have same : ∀ j' a' b' : Nat, j' < 8 → a' < n j' → b' < n j' → l = nI j' → A = nI a' → B = nI b' → j' = j ∧ a' = a ∧ b' = b := fun j' a' b' b1 b2 b3 b5 b6 b7 => by
    have e1 := n8 a1 b1 (a5.symm.trans b5)
    subst e1
    exact ⟨rfl, (nI_inj (by omega) (by omega) (a6.symm.trans b6)).symm, (nI_inj (by omega) (by omega) (a7.symm.trans b7)).symm⟩
  refine ⟨fun hk => hP _ I J (fun Q hQ => sp_X10_mistake (d + 68) hO hon hl.n2 hl.m (fun j' a' b' b1 b2 b3 b4 b5 b6 b7 => ?_) (fun hv => absurd ⟨j, a, b, a1, a2, a3, a4, a5, a6, a7⟩ hv)) rfl, fun hk => ⟨fun hb => hP _ I J (fun Q hQ => sp_X10_mistake (d + 68) hO hon hl.n2 hl.m (fun j' a' b' b1 b2 b3 b4 b5 b6 b7 => ?_) (fun hv => absurd ⟨j, a, b, a1, a2, a3, a4, a5, a6, a7⟩ hv)) rfl, fun hb I1 f1 f2 => hP _ I1 J (fun Q hQ => sp_X10_mistake (d + 68) hO hon hl.n2 (hl.mo (fun c hc => f1 c (Or.inr (by unfold LN; omega)))) (fun j' a' b' b1 b2 b3 b4 b5 b6 b7 => ?_) (fun hv => absurd ⟨j, a, b, a1, a2, a3, a4, a5, a6, a7⟩ hv)) (f1 0 (Or.inl (by unfold LN; omega)))⟩⟩
  · obtain ⟨rfl, rfl, rfl⟩ := same j' a' b' b1 b2 b3 b5 b6 b7
    exact ⟨fun _ => hQ I J hR rfl hT.up, fun z => absurd z hk⟩
  · obtain ⟨rfl, rfl, rfl⟩ := same j' a' b' b1 b2 b3 b5 b6 b7
    exact ⟨fun z => absurd hk z, fun _ => ⟨fun _ => hQ I J hR rfl hT.up, fun z => absurd hb z⟩⟩
  · obtain ⟨rfl, rfl, rfl⟩ := same j' a' b' b1 b2 b3 b5 b6 b7
    refine ⟨fun z => absurd hk z, fun _ => ⟨fun z => absurd z hb, fun _ I2 g1 g2 => ?_⟩⟩
    obtain ⟨w1, w2, w3, w4, w5⟩ := (hl j' a1).1
    obtain ⟨h1, h2⟩ := LN_done hR hl a1 ⟨w1, w2, wfE_tg w3 a2 a3 a4, rok0, w5⟩ (fun c _ hc => f1 c hc) f2 (fun c _ hc => g1.1 c hc) g1.fo g2
    exact hQ I2 J h1 h2 hT.up
theorem two_row (d : Nat) (hO : OK M) (hR : REL I) (hm : mT ≤ 400000) (hT : RT J mT) {l A i v : Int32} : TWO mX9_row (d + 71) [.ref 1, .int l, .int A, .int i, .int v] mX10_row (d + 71) [.ref 259, .int l, .int A, .int i, .int v] M I J mT := by
  intro P hP
  obtain ⟨n, kd, ag, E, sg, rw, hl⟩ := hR.1
  refine sp_X9_row (d + 70) hO hl.nn hl.c (fun j x y a1 a2 a3 a4 a5 a6 a7 a8 I1 f1 f2 => hP _ I1 J (fun Q hQ => sp_X10_row (d + 69) hO hl.nn (hl.mo (fun c hc => f1 c (by unfold LN; omega))) (fun j' x' y' b1 b2 b3 b4 b5 b6 b7 b8 I2 g1 g2 g3 => ?_) (fun hv => absurd ⟨j, x, y, a1, a2, a3, a4, a5, a6, a7, a8⟩ hv)) (f1 0 (by unfold LN; omega))) (fun hv => hP _ I J (fun Q hQ => sp_X10_row (d + 69) hO hl.nn hl.m (fun j' x' y' b1 b2 b3 b4 b5 b6 b7 b8 => absurd ⟨j', x', y', b1, b2, b3, b4, b5, b6, b7, b8⟩ hv) (fun _ => hQ I J hR rfl hT.up)) rfl)
  have e1 := n8 a1 b1 (a5.symm.trans b5)
  subst e1
  have e2 := nI_inj (by omega) (by omega) (a6.symm.trans b6)
  subst e2
  have hnj := hl.n2 j a1
  have e3 : x = x' := by
    rcases a3 with z | z <;> rcases b3 with z' | z'
    · omega
    · rw [z.1] at z'; exact absurd z'.2.symm (nI_nm1 (by omega))
    · rw [z'.1] at z; exact absurd z.2.symm (nI_nm1 (by omega))
    · exact nI_inj (by omega) (by omega) (z.2.symm.trans z'.2)
  subst e3
  have hL8 : 26 < LN j ∧ LN j + 28 < 259 := by unfold LN; omega
  obtain ⟨w1, w2, w3, w4, w5⟩ := (hl j a1).1
  obtain ⟨h1, h2⟩ := LN_done hR hl a1 ⟨w1, w2, w3, rok_ru w4 a7 a8, w5⟩ (fun c _ hc => f1 c (by omega)) f2 (fun c _ hc => g1.1 c hc) g1.fo g3
  exact hQ I2 J h1 h2 hT.up
end Two2

