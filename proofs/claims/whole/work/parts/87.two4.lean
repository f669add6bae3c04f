/-! ===== two calls agree: told, came, most, heaps, list ===== -/
section Two4
variable {M : zz_M} {I : zz_I} {J : zz_J} {mT : Nat}
theorem cds_pos {n k : Nat} {E : Nat → Nat → Bool} (hE : wfE n E) (h1 : 1 ≤ n ^ k) (h64 : n ^ k ≤ 64) : 1 ≤ fb_ct (cds n E k) 64 := by
  have rf := tkB_rf (n := n) (E := E) k
  have sy := tkB_sy (n := n) hE k
  have hi := gd_inv sy rf h64 rfl (n ^ k)
  have hz : al (tkB n E k) 64 (gd (tkB n E k) (n ^ k) (al (tkB n E k) 64 (ltW (n ^ k))) (n ^ k)).1 = 0 := al_0 (fun w _ => by
    cases c : (gd (tkB n E k) (n ^ k) (al (tkB n E k) 64 (ltW (n ^ k))) (n ^ k)).1 w with
    | false => rfl
    | true => have := (gd_lt (N := tkB n E k) (W := n ^ k) (m := al (tkB n E k) 64 (ltW (n ^ k))) rf (n ^ k)).1 w c; omega)
  have hp := al_pos (N := tkB n E k) h1 h64
  rw [hz] at hi
  unfold cds
  omega
/-- the words of a code by their places -/
theorem cds_ws (p : Nat → Bool) : ∃ ws : Nat → Nat, ∀ i, i < fb_ct p 64 → ws i < 64 ∧ p (ws i) = true ∧ fb_ct p (ws i) = i := by
  refine ⟨fun i => if h : i < fb_ct p 64 then (fb_ct_kth h).choose else 0, fun i hi => ?_⟩
  show (dite _ _ _) < 64 ∧ p (dite _ _ _) = true ∧ fb_ct p (dite _ _ _) = i
  rw [dif_pos hi]
  exact (fb_ct_kth hi).choose_spec
theorem two_most (d : Nat) (hO : OK M) (hR : REL I) (hm : mT ≤ 400000) (hT : RT J mT) {l K : Int32} : TWO mX9_most (d + 71) [.ref 1, .int l, .int K] mX10_most (d + 71) [.ref 259, .int l, .int K] M I J mT := by
  intro P hP
  obtain ⟨n, kd, ag, E, sg, rw, hl⟩ := hR.1
  refine sp_X9_most d hO hl.nn hl.e hl.c
    (fun j k a1 a2 a3 a4 a5 a6 I1 J1 f1 f2 f3 f4 f5 f6 f7 => hP _ I1 J1 (fun Q hQ => sp_X10_most (d + 3) hO hl.nn hl.e (hl.mo (fun c hc => f1 c (by omega) (by omega) (by omega))) (fun j' k' b1 b2 b3 b4 b5 b6 I2 J2 g1 g2 g3 g4 g5 g6 g7 g8 => ?_) (fun j' k' b1 b2 b3 b4 b5 b6 => ?_) (fun hv => absurd ⟨j, k, a1, a2, a3, a5, a6⟩ hv)) (f1 0 (by decide) (by decide) (by decide)))
    (fun j k a1 a2 a3 a4 a5 a6 => hP _ I J (fun Q hQ => sp_X10_most (d + 3) hO hl.nn hl.e hl.m (fun j' k' b1 b2 b3 b4 b5 b6 I2 J2 g1 g2 g3 g4 g5 g6 g7 g8 => ?_) (fun j' k' b1 b2 b3 b4 b5 b6 => hQ I J hR rfl hT.up) (fun hv => absurd ⟨j, k, a1, a2, a3, a5, a6⟩ hv)) rfl)
    (fun hv => hP _ I J (fun Q hQ => sp_X10_most (d + 3) hO hl.nn hl.e hl.m (fun j' k' b1 b2 b3 b4 b5 b6 I2 J2 g1 g2 g3 g4 g5 g6 g7 g8 => absurd ⟨j', k', b1, b2, b3, b5, b6⟩ hv) (fun j' k' b1 b2 b3 b4 b5 b6 => absurd ⟨j', k', b1, b2, b3, b5, b6⟩ hv) (fun _ => hQ I J hR rfl hT.up)) rfl)
  · have e1 := n8 a1 b1 (a5.symm.trans b5)
    subst e1
    have e2 := nI_inj (by omega) (by omega) (a6.symm.trans b6)
    subst e2
    have hle : fb_ct (cds (n j) (E j) k) 64 ≤ 64 := fb_ct_le _ _
    have hp := cds_pos (hl.e j a1) (Nat.pow_pos (hl.nn j a1).1) a4
    obtain ⟨ws, hws⟩ := cds_ws (cds (n j) (E j) k)
    have fr : ∀ c, c ≠ 8 → c ≠ 24 → c ≠ 25 → c ≠ 259 → c ≠ 270 → I2 c = I c := fun c c1 c2 c3 c4 c5 => (g1 c c4 c5).trans (f1 c c1 c2 c3)
    have f7' : ∀ x, x ≠ 13 → x ≠ 15 → x ≠ 16 → x ≠ 17 → x ≠ 18 → I2 259 x = I 259 x := fun x x1 x2 x3 x4 x5 => (g2 x x1 x2 x3 x4 x5).trans (by rw [f1 259 (by decide) (by decide) (by decide)])
    have q22 : I2 24 = I1 24 := g1 24 (by decide) (by decide)
    have q23 : I2 25 = I1 25 := g1 25 (by decide) (by decide)
    refine hQ I2 J2 ⟨hR.1.of (fun c a b e => fr c (by omega) (by omega) (by omega) e (by omega)), hR.2.1.of ?_ ?_ (f7' 7 (by decide) (by decide) (by decide) (by decide) (by decide)) ?_, hR.2.2.1.of ?_ ?_ (f7' 8 (by decide) (by decide) (by decide) (by decide) (by decide)) (f7' 9 (by decide) (by decide) (by decide) (by decide) (by decide)), ⟨fb_ct (cds (n j) (E j) k) 64, k, ws, hle, a3, ?_, fun i hi => ⟨(hws i hi).1, ?_, ?_⟩, ?_, ?_, ?_, Or.inr ⟨hp, g4, ?_⟩⟩, hR.2.2.2.2.1.of ?_ ?_ (f7' 21 (by decide) (by decide) (by decide) (by decide) (by decide)) ?_, hR.2.2.2.2.2.1.of ?_ (f7' 29 (by decide) (by decide) (by decide) (by decide) (by decide)), hR.2.2.2.2.2.2.of ?_ (f7' 30 (by decide) (by decide) (by decide) (by decide) (by decide))⟩ ?_ (hT.of ((g3 10 (by decide)).trans (f2 10 (by decide) (by decide))) ((g3 15 (by decide)).trans (f2 15 (by decide) (by decide))))
    · rw [fr 2 (by decide) (by decide) (by decide) (by decide) (by decide)]
    · exact fr 3 (by decide) (by decide) (by decide) (by decide) (by decide)
    · exact fr 266 (by decide) (by decide) (by decide) (by decide) (by decide)
    · rw [fr 4 (by decide) (by decide) (by decide) (by decide) (by decide)]
    · rw [fr 4 (by decide) (by decide) (by decide) (by decide) (by decide)]
    · rw [q22]; exact f3
    · rw [q23]
      have := f7 _ (hws i hi).1 (hws i hi).2.1
      rw [(hws i hi).2.2] at this
      exact this
    · have := g8 _ (hws i hi).1 (hws i hi).2.1
      rw [(hws i hi).2.2] at this
      exact this
    · rw [q22, g5, f4]
    · rw [q22, g6, f5]
    · rw [q22, g7, f6]
    · rw [q22]; exact f4
    · rw [fr 1 (by decide) (by decide) (by decide) (by decide) (by decide)]
    · exact fr 26 (by decide) (by decide) (by decide) (by decide) (by decide)
    · exact fr 273 (by decide) (by decide) (by decide) (by decide) (by decide)
    · rw [fr 1 (by decide) (by decide) (by decide) (by decide) (by decide)]
    · rw [fr 1 (by decide) (by decide) (by decide) (by decide) (by decide)]
    · exact fr 0 (by decide) (by decide) (by decide) (by decide) (by decide)
  · have e1 := n8 a1 b1 (a5.symm.trans b5)
    subst e1
    have e2 := nI_inj (by omega) (by omega) (a6.symm.trans b6)
    subst e2
    exact absurd a4 b4
  · have e1 := n8 a1 b1 (a5.symm.trans b5)
    subst e1
    have e2 := nI_inj (by omega) (by omega) (a6.symm.trans b6)
    subst e2
    exact absurd b4 a4
theorem two_heaps (d : Nat) (hO : OK M) (hR : REL I) (hm : mT ≤ 400000) (hT : RT J mT) {l : Int32} : TWO mX9_heaps (d + 71) [.ref 1, .int l] mX10_heaps (d + 71) [.ref 259, .int l] M I J mT := by
  intro P hP
  have hT' := hT
  obtain ⟨tt, htt, hTt⟩ := hT'
  obtain ⟨n, kd, ag, E, sg, rw, hl⟩ := hR.1
  refine sp_X9_heaps d hO hl.nn hl.e hl.c (t := tt) (by omega) hTt (fun j hj e I1 J1 kk t1 r f1 f2 f3 f4 f5 f6 f7 f8 f9 => hP _ I1 J1 (fun Q hQ => sp_X10_heaps (d + 2) hO hl.nn hl.e (hl.mo (fun c hc => f1 c (by omega) (by omega) (by omega) (by omega) (by omega) (by omega) (by omega) (by omega))) (fun j' hj' e' I2 J2 kk' r' g1 g2 g3 g4 g5 g6 g7 => ?_) (fun hv => absurd (vin hj e) hv)) (f1 0 (by decide) (by decide) (by decide) (by decide) (by decide) (by decide) (by decide) (by decide)))
    (fun hv => hP _ I J (fun Q hQ => sp_X10_heaps (d + 2) hO hl.nn hl.e hl.m (fun j' hj' e' => absurd (vin hj' e') hv) (fun _ => hQ I J hR rfl hT.up)) rfl)
  have e1 := n8 hj hj' (e.symm.trans e')
  subst e1
  have e2 := hp_N1 f5 g5
  subst e2
  have er := hp_L1 f6 g6
  have fr : ∀ c, c ≠ 1 → c ≠ 8 → c ≠ 10 → c ≠ 11 → c ≠ 12 → c ≠ 13 → c ≠ 14 → c ≠ 26 → c ≠ 259 → c ≠ 271 → c ≠ 272 → c ≠ 273 → I2 c = I c := fun c c1 c2 c3 c4 c5 c6 c7 c8 c9 c10 c11 c12 => (g1 c c9 c10 c11 c12).trans (f1 c c1 c2 c3 c4 c5 c6 c7 c8)
  have x7 : ∀ x, x ≠ 13 → x ≠ 21 → I2 259 x = I 259 x := fun x x1 x2 => (g2 x x1 x2).trans (by rw [f1 259 (by decide) (by decide) (by decide) (by decide) (by decide) (by decide) (by decide) (by decide)])
  have q1 : I2 1 = I1 1 := g1 1 (by decide) (by decide) (by decide) (by decide)
  have k1 : ∀ i, i ≠ 11 → I2 1 i = I 1 i := fun i hi => by rw [q1]; exact f2 i hi
  refine hQ I2 J2 ⟨hR.1.of (fun c a b e => fr c (by omega) (by omega) (by omega) (by omega) (by omega) (by omega) (by omega) (by omega) e (by omega) (by omega) (by omega)), hR.2.1.of ?_ ?_ (x7 7 (by decide) (by decide)) ?_, hR.2.2.1.of ?_ ?_ (x7 8 (by decide) (by decide)) (x7 9 (by decide) (by decide)), hR.2.2.2.1.of ?_ ?_ ?_ (x7 15 (by decide) (by decide)) (x7 16 (by decide) (by decide)) (x7 17 (by decide) (by decide)) (x7 18 (by decide) (by decide)), ⟨n j, hl.n2 j hj, ?_, g3, fun i hi => ?_⟩, hR.2.2.2.2.2.1.of (k1 12 (by decide)) (x7 29 (by decide) (by decide)), hR.2.2.2.2.2.2.of (k1 13 (by decide)) (x7 30 (by decide) (by decide))⟩ ?_ ⟨t1, by omega, f9.of (g4 10 (by decide)) (g4 15 (by decide))⟩
  · rw [fr 2 (by decide) (by decide) (by decide) (by decide) (by decide) (by decide) (by decide) (by decide) (by decide) (by decide) (by decide) (by decide)]
  · exact fr 3 (by decide) (by decide) (by decide) (by decide) (by decide) (by decide) (by decide) (by decide) (by decide) (by decide) (by decide) (by decide)
  · exact fr 266 (by decide) (by decide) (by decide) (by decide) (by decide) (by decide) (by decide) (by decide) (by decide) (by decide) (by decide) (by decide)
  · rw [fr 4 (by decide) (by decide) (by decide) (by decide) (by decide) (by decide) (by decide) (by decide) (by decide) (by decide) (by decide) (by decide)]
  · rw [fr 4 (by decide) (by decide) (by decide) (by decide) (by decide) (by decide) (by decide) (by decide) (by decide) (by decide) (by decide) (by decide)]
  · exact fr 24 (by decide) (by decide) (by decide) (by decide) (by decide) (by decide) (by decide) (by decide) (by decide) (by decide) (by decide) (by decide)
  · exact fr 25 (by decide) (by decide) (by decide) (by decide) (by decide) (by decide) (by decide) (by decide) (by decide) (by decide) (by decide) (by decide)
  · exact fr 270 (by decide) (by decide) (by decide) (by decide) (by decide) (by decide) (by decide) (by decide) (by decide) (by decide) (by decide) (by decide)
  · rw [q1]; exact f3
  · rw [g1 26 (by decide) (by decide) (by decide) (by decide), f7 i hi, g7 i hi, er i hi]
  · exact fr 0 (by decide) (by decide) (by decide) (by decide) (by decide) (by decide) (by decide) (by decide) (by decide) (by decide) (by decide) (by decide)
theorem two_list (d : Nat) (hO : OK M) (hR : REL I) (hm : mT ≤ 400000) (hT : RT J mT) {a b : Int32} : TWO mX9_list (d + 71) [.ref 1, .int a, .int b] mX10_list (d + 71) [.ref 259, .int a, .int b] M I J mT := by
  intro P hP
  obtain ⟨n, kd, ag, E, sg, rw, hl⟩ := hR.1
  refine sp_X9_list (d + 52) hO hl.c hl.nn
    (fun j l a1 a2 a3 a4 a5 a6 a7 I1 J1 x f1 f2 f3 f4 f5 => hP _ I1 J1 (fun Q hQ => sp_X10_list (d + 69) hO (hl.mo (fun c hc => f1 c (by omega) (by omega))) hl.nn (fun j' l' b1 b2 b3 b4 b5 b6 b7 x' g1 => ?_) (fun j' l' b1 b2 b3 b4 b5 b6 b7 => ?_) (fun j' l' b1 b2 b3 b4 b5 b6 => ?_) (fun hv => absurd ⟨j, l, a1, a2, a3, a6, a7⟩ hv)) (f1 0 (by decide) (by decide)))
    (fun j l a1 a2 a3 a4 a5 a6 a7 => hP _ I J (fun Q hQ => sp_X10_list (d + 69) hO hl.m hl.nn (fun j' l' b1 b2 b3 b4 b5 b6 b7 x' g1 => ?_) (fun _ _ _ _ _ _ _ _ _ => hQ I J hR rfl hT.up) (fun j' l' b1 b2 b3 b4 b5 b6 => ?_) (fun hv => absurd ⟨j, l, a1, a2, a3, a6, a7⟩ hv)) rfl)
    (fun j l a1 a2 a3 a4 a6 a7 => hP _ I J (fun Q hQ => sp_X10_list (d + 69) hO hl.m hl.nn (fun j' l' b1 b2 b3 b4 b5 b6 b7 x' g1 => ?_) (fun j' l' b1 b2 b3 b4 b5 b6 b7 => ?_) (fun _ _ _ _ _ _ _ _ => hQ I J hR rfl hT.up) (fun hv => absurd ⟨j, l, a1, a2, a3, a6, a7⟩ hv)) rfl)
    (fun hv => hP _ I J (fun Q hQ => sp_X10_list (d + 69) hO hl.m hl.nn (fun j' l' b1 b2 b3 b4 b5 b6 b7 x' g1 => absurd ⟨j', l', b1, b2, b3, b6, b7⟩ hv) (fun j' l' b1 b2 b3 b4 b5 b6 b7 => absurd ⟨j', l', b1, b2, b3, b6, b7⟩ hv) (fun j' l' b1 b2 b3 b4 b5 b6 => absurd ⟨j', l', b1, b2, b3, b5, b6⟩ hv) (fun _ => hQ I J hR rfl hT.up)) rfl)
  · have e1 := n8 a1 b1 (a6.symm.trans b6)
    subst e1
    have e2 := nI_inj (by omega) (by omega) (a7.symm.trans b7)
    subst e2
    have e3 := lst_one f5 g1
    subst e3
    have fr : ∀ c, c ≠ 1 → c ≠ 23 → c ≠ 259 → zz_ui I1 259 30 (nI x) c = I c := fun c c1 c2 c3 => by rw [zz_ui_ne _ _ _ c3]; exact f1 c c1 c2
    have x7 : ∀ y, y ≠ 30 → zz_ui I1 259 30 (nI x) 259 y = I 259 y := fun y y1 => by rw [zz_ui_at, pk_un y1, f1 259 (by decide) (by decide)]
    have k1 : ∀ i, i ≠ 13 → zz_ui I1 259 30 (nI x) 1 i = I 1 i := fun i hi => by rw [zz_ui_ne _ _ _ (by decide)]; exact f2 i hi
    refine hQ _ J1 ⟨hR.1.of (fun c a b e => fr c (by omega) (by omega) e), hR.2.1.of ?_ ?_ (x7 7 (by decide)) ?_, hR.2.2.1.of ?_ ?_ (x7 8 (by decide)) (x7 9 (by decide)), hR.2.2.2.1.of ?_ ?_ ?_ (x7 15 (by decide)) (x7 16 (by decide)) (x7 17 (by decide)) (x7 18 (by decide)), hR.2.2.2.2.1.of (k1 11 (by decide)) ?_ (x7 21 (by decide)) ?_, hR.2.2.2.2.2.1.of (k1 12 (by decide)) (x7 29 (by decide)), ?_⟩ ?_ (hT.of (f3 10 (by decide) (by decide)) (f3 15 (by decide) (by decide)))
    · rw [fr 2 (by decide) (by decide) (by decide)]
    · exact fr 3 (by decide) (by decide) (by decide)
    · exact fr 266 (by decide) (by decide) (by decide)
    · rw [fr 4 (by decide) (by decide) (by decide)]
    · rw [fr 4 (by decide) (by decide) (by decide)]
    · exact fr 24 (by decide) (by decide) (by decide)
    · exact fr 25 (by decide) (by decide) (by decide)
    · exact fr 270 (by decide) (by decide) (by decide)
    · exact fr 26 (by decide) (by decide) (by decide)
    · exact fr 273 (by decide) (by decide) (by decide)
    · show zz_ui I1 259 30 (nI x) 259 30 = zz_ui I1 259 30 (nI x) 1 13
      rw [zz_ui_at, pk_us, zz_ui_ne _ _ _ (by decide), f4]
    · exact fr 0 (by decide) (by decide) (by decide)
  all_goals first
    | (have e1 := n8 a1 b1 (a6.symm.trans b6); subst e1; exact absurd a5 b5)
    | (have e1 := n8 a1 b1 (a6.symm.trans b5); subst e1; exact absurd a4 b4)
    | (have e1 := n8 a1 b1 (a6.symm.trans b6); subst e1; exact absurd b5 a5)
    | (have e1 := n8 a1 b1 (a6.symm.trans b6); subst e1; exact absurd b4 a4)
/-- all but lines, tape and fault is as it was -/
theorem REL_txt {I I2 : zz_I} (hR : REL I) (hl : RLn I2) (ht : RTp I2) (hf : RFt I2) (fr : ∀ c, c = 1 ∨ (23 < c ∧ c < 27) ∨ c = 270 ∨ c = 273 → I2 c = I c) (f7 : ∀ x, x ≠ 7 → x ≠ 8 → x ≠ 9 → I2 259 x = I 259 x) : REL I2 := by
  refine ⟨hl, ht, hf, hR.2.2.2.1.of (fr 24 (by decide)) (fr 25 (by decide)) (fr 270 (by decide)) (f7 15 (by decide) (by decide) (by decide)) (f7 16 (by decide) (by decide) (by decide)) (f7 17 (by decide) (by decide) (by decide)) (f7 18 (by decide) (by decide) (by decide)), hR.2.2.2.2.1.of ?_ (fr 26 (by decide)) (f7 21 (by decide) (by decide) (by decide)) (fr 273 (by decide)), hR.2.2.2.2.2.1.of ?_ (f7 29 (by decide) (by decide) (by decide)), hR.2.2.2.2.2.2.of ?_ (f7 30 (by decide) (by decide) (by decide))⟩
  all_goals rw [fr 1 (by decide)]
theorem RTp0 {I : zz_I} (h1 : I 2 1 = 0) (h2 : I 259 7 = 0) : RTp I := ⟨0, by decide, h1, h2, fun i hi => absurd hi (Nat.not_lt_zero i)⟩
theorem two_told (d : Nat) (hO : OK M) (hR : REL I) (hm : mT ≤ 400000) (hT : RT J mT) {l : Int32} : TWO mX9_told (d + 71) [.ref 1, .int l] mX10_told (d + 71) [.ref 259, .int l] M I J mT := by
  intro P hP
  obtain ⟨n, kd, ag, E, sg, rw, hl⟩ := hR.1
  obtain ⟨tn, t1, t2, t3, t4⟩ := hR.2.1
  have hbc : ∀ i, i < tn → (fun i => (I 3 i).toBitVec.toNat) i < 256 ∧ I 3 i = nI ((fun i => (I 3 i).toBitVec.toNat) i) := fun i hi => ⟨(tby_by (t4 i hi)).1, (tby_by (t4 i hi)).2.1⟩
  have hbm : ∀ i, i < tn → (fun i => (I 3 i).toBitVec.toNat) i < 256 ∧ I 266 i = jv_b (nI ((fun i => (I 3 i).toBitVec.toNat) i)) := fun i hi => ⟨(tby_by (t4 i hi)).1, (tby_by (t4 i hi)).2.2⟩
  generalize hby : (fun i => (I 3 i).toBitVec.toNat) = by_ at hbc hbm
  refine sp_X9_told (d + 69) hO t2 t1 hbc
    (fun j f p a1 a2 a3 I1 f1 f2 f3 f4 => hP _ I1 J (fun Q hQ => sp_X10_told (d + 69) hO (n := tn) (by_ := by_) (by rw [f1 259 (by decide) (by decide) (by decide)]; exact t3) t1 (fun i hi => by rw [f1 266 (by decide) (by decide) (by decide)]; exact hbm i hi) (fun j' f' p' b1 b2 b3 I2 g1 g2 g3 g4 g5 => ?_) (fun j' L b1 b2 b3 => absurd (a3.symm.trans b3) (fun z => by cases z)) (fun hv => absurd (vin a1 a2) hv)) (f1 0 (by decide) (by decide) (by decide)))
    (fun j L a1 a2 a3 I1 f1 f2 f3 f4 f5 => hP _ I1 J (fun Q hQ => sp_X10_told (d + 69) hO (n := tn) (by_ := by_) (by rw [f1 259 (by decide) (by decide) (by decide) (by unfold LN; omega)]; exact t3) t1 (fun i hi => by rw [f1 266 (by decide) (by decide) (by decide) (by unfold LN; omega)]; exact hbm i hi) (fun j' f' p' b1 b2 b3 => absurd (a3.symm.trans b3) (fun z => by cases z)) (fun j' L' b1 b2 b3 I2 g1 g2 g3 g4 g5 g6 g7 => ?_) (fun hv => absurd (vin a1 a2) hv)) (f1 0 (by decide) (by decide) (by decide) (by unfold LN; omega)))
    (fun hv => hP _ _ J (fun Q hQ => sp_X10_told (d + 69) hO (n := tn) (by_ := by_) (by rw [zz_ui_ne _ _ _ (by decide)]; exact t3) t1 (fun i hi => by rw [zz_ui_ne _ _ _ (by decide)]; exact hbm i hi) (fun j' f' p' b1 b2 => absurd (vin b1 b2) hv) (fun j' L b1 b2 => absurd (vin b1 b2) hv) (fun _ => ?_)) (zz_ui_ne _ _ _ (by decide)))
  · have e := Sum.inl.inj (a3.symm.trans b3)
    cases e
    refine hQ I2 J (REL_txt hR (hR.1.of (fun c a b e => (g1 c e (by omega)).trans (f1 c (by omega) (by omega) (by omega)))) (RTp0 (by rw [g1 2 (by decide) (by decide)]; exact f2) g3) ⟨?_, ?_⟩ (fun c hc => (g1 c (by omega) (by omega)).trans (f1 c (by omega) (by omega) (by omega))) (fun x x1 x2 x3 => (g2 x x1 x2 x3).trans (by rw [f1 259 (by decide) (by decide) (by decide)]))) ((g1 0 (by decide) (by decide)).trans (f1 0 (by decide) (by decide) (by decide))) hT.up
    · rw [g4, g1 4 (by decide) (by decide), f3]
    · rw [g5, g1 4 (by decide) (by decide), f4]
  · have e := Sum.inr.inj (a3.symm.trans b3)
    subst e
    have e1 := n8 a1 b1 (a2.symm.trans b2)
    subst e1
    have hL8 : 26 < LN j ∧ LN j + 28 < 259 := by unfold LN; omega
    obtain ⟨len1, len2⟩ := prs_len by_ tn tn 0 0 [] L (by decide) a3
    have hhi := prs_hi by_ tn tn 0 0 [] L (fun i _ => b_0 i) (fun x hx => by cases hx) a3
    rw [(hl.c j a1).2.2.1] at f5
    rw [f1 265 (by decide) (by decide) (by decide) (by omega), (hl.m j a1).2.2.1] at g7
    have w' : wfl L.length (se (fun i => L.getD i 0) L.length 0) (fun a => if a < L.length then L.getD a 0 else 0) (fun _ _ => 0) := ⟨len1, len2, wfE_se, rok0, fun a ha i hi => by
      show bt (if a < L.length then L.getD a 0 else 0) i = false
      rw [if_pos ha]
      refine hhi _ ?_ i hi
      rw [List.getD_eq_getElem?_getD, List.getElem?_eq_getElem ha]
      exact List.getElem_mem ha⟩
    have hRl : RLn I2 := RLn_set hl w' (CL_of (fun c h1 h2 => g1 c (by omega) (by omega)) a1 f5) g7 (fun l hl8 hne => ⟨CL_fr hl8 hne (fun c h1 h2 h3 => (g1 c (by omega) (by omega)).trans (f1 c (by omega) (by omega) (by omega) h3)) (hl.c l hl8), g6.ML hl8 hne (ML_of (fun c h1 h2 => f1 c (by omega) (by omega) (by omega) (by omega)) (hl.m l hl8))⟩)
    refine hQ I2 J (REL_txt hR hRl (RTp0 (by rw [g1 2 (by decide) (by decide)]; exact f2) g3) ⟨?_, ?_⟩ (fun c hc => (g1 c (by omega) (by omega)).trans (f1 c (by omega) (by omega) (by omega) (by omega))) (fun x x1 x2 x3 => (g2 x x1 x2 x3).trans (by rw [f1 259 (by decide) (by decide) (by decide) (by omega)]))) ((g1 0 (by decide) (by decide)).trans (f1 0 (by decide) (by decide) (by decide) (by omega))) hT.up
    · rw [g4, g1 4 (by decide) (by decide), f3]
    · rw [g5, g1 4 (by decide) (by decide), f4]
  · obtain ⟨h1, h2⟩ := REL_tp (I2 := zz_ui (zz_ui I 2 1 0) 259 7 0) hR (RTp0 (by rw [zz_ui_ne _ _ _ (by decide), zz_ui_at, pk_us]) (by rw [zz_ui_at, pk_us])) (fun c c1 c2 _ c3 c4 _ => by rw [zz_ui_ne _ _ _ c3, zz_ui_ne _ _ _ c1]) (fun x hx => by rw [zz_ui_at, pk_un hx, zz_ui_ne _ _ _ (by decide)])
    exact hQ _ J h1 h2 hT.up
theorem two_came (d : Nat) (hO : OK M) (hR : REL I) (hm : mT ≤ 400000) (hT : RT J mT) {l : Int32} : TWO mX9_came (d + 71) [.ref 1, .int l] mX10_came (d + 71) [.ref 259, .int l] M I J mT := by
  intro P hP
  obtain ⟨n, kd, ag, E, sg, rw, hl⟩ := hR.1
  obtain ⟨tn, t1, t2, t3, t4⟩ := hR.2.1
  obtain ⟨sz, k, ws, c1, c2, c3, c4, c5, c6, c7, c8⟩ := hR.2.2.2.1
  have hS : I 259 29 = I 1 12 := hR.2.2.2.2.2.1
  have hbc : ∀ i, i < tn → (fun i => (I 3 i).toBitVec.toNat) i < 256 ∧ I 3 i = nI ((fun i => (I 3 i).toBitVec.toNat) i) := fun i hi => ⟨(tby_by (t4 i hi)).1, (tby_by (t4 i hi)).2.1⟩
  have hbm : ∀ i, i < tn → (fun i => (I 3 i).toBitVec.toNat) i < 256 ∧ I 266 i = jv_b (nI ((fun i => (I 3 i).toBitVec.toNat) i)) := fun i hi => ⟨(tby_by (t4 i hi)).1, (tby_by (t4 i hi)).2.2⟩
  generalize hby : (fun i => (I 3 i).toBitVec.toNat) = by_ at hbc hbm
  have key : ∀ j, j < 8 → I 24 3 = nI j → 1 ≤ sz ∧ I 259 15 = nI sz ∧ I 24 2 = nI k := fun j hj e => c8.elim (fun z => by
    rw [z.2.2] at e
    exact absurd e.symm (nI_nm1 (by omega))) id
  refine sp_X9_came (d + 69) hO (n := tn) (sz := sz) (k := k) (by_ := by_) (ws := ws) t2 t1 hbc hl.nn hl.c (fun j hj e => ⟨c3, c1, (key j hj e).2.2, c2, fun i hi => ⟨Nat.lt_trans (c4 i hi).1 (by decide), (c4 i hi).2.1⟩⟩)
    (fun j a1 a2 I1 f1 f2 f3 f4 => hP _ I1 J (fun Q hQ => sp_X10_came (d + 69) hO (n := tn) (sz := sz) (k := k) (by_ := by_) (ws := ws) (by rw [f1 259 (by decide) (by decide) (by decide)]; exact t3) t1 (fun i hi => by rw [f1 266 (by decide) (by decide) (by decide)]; exact hbm i hi) hl.nn (hl.mo (fun c hc => f1 c (by omega) (by omega) (by omega))) (fun j' hj' e' => ?_) (fun j' b1 b2 I2 g1 g2 g3 g4 => ?_) (fun hv => absurd (vin a1 a2) hv)) (f1 0 (by decide) (by decide) (by decide)))
    (fun hv I1 f1 f2 => hP _ I1 J (fun Q hQ => sp_X10_came (d + 69) hO (n := tn) (sz := sz) (k := k) (by_ := by_) (ws := ws) (by rw [f1 259 (by decide) (by decide)]; exact t3) t1 (fun i hi => by rw [f1 266 (by decide) (by decide)]; exact hbm i hi) hl.nn (hl.mo (fun c hc => f1 c (by omega) (by omega))) (fun j' hj' e' => ?_) (fun j' b1 b2 => absurd (vin b1 b2) hv) (fun _ => ?_)) (f1 0 (by decide) (by decide)))
  · rw [f1 259 (by decide) (by decide) (by decide)] at e' ⊢
    rw [f1 270 (by decide) (by decide) (by decide)]
    rw [c6] at e'
    obtain ⟨k1, k2, k3⟩ := key j' hj' e'
    exact ⟨k2, c1, c5.trans k3, c2, fun i hi => ⟨Nat.lt_trans (c4 i hi).1 (by decide), (c4 i hi).2.2⟩⟩
  · have e1 := n8 a1 b1 (a2.symm.trans b2)
    subst e1
    have q257 : I1 259 = I 259 := f1 259 (by decide) (by decide) (by decide)
    rw [q257, c6, c7, hS] at g4 ⊢
    have q1 : I2 1 = I1 1 := g1 1 (by decide) (by decide)
    have k1 : ∀ i, i ≠ 12 → I2 1 i = I 1 i := fun i hi => by rw [q1]; exact f3 i hi
    have fr : ∀ c, c ≠ 1 → c ≠ 2 → c ≠ 5 → c ≠ 259 → c ≠ 267 → I2 c = I c := fun c c1 c2 c3 c4 c5 => (g1 c c4 c5).trans (f1 c c1 c2 c3)
    have x7 : ∀ x, x ≠ 7 → x ≠ 29 → I2 259 x = I 259 x := fun x x1 x2 => (g3 x x1 x2).trans (by rw [q257])
    refine hQ I2 J ⟨hR.1.of (fun c a b e => fr c (by omega) (by omega) (by omega) e (by omega)), RTp0 (by rw [g1 2 (by decide) (by decide)]; exact f2) g2, hR.2.2.1.of ?_ ?_ (x7 8 (by decide) (by decide)) (x7 9 (by decide) (by decide)), hR.2.2.2.1.of ?_ ?_ ?_ (x7 15 (by decide) (by decide)) (x7 16 (by decide) (by decide)) (x7 17 (by decide) (by decide)) (x7 18 (by decide) (by decide)), hR.2.2.2.2.1.of (k1 11 (by decide)) ?_ (x7 21 (by decide) (by decide)) ?_, ?_, hR.2.2.2.2.2.2.of (k1 13 (by decide)) (x7 30 (by decide) (by decide))⟩ ?_ hT.up
    · rw [fr 4 (by decide) (by decide) (by decide) (by decide) (by decide)]
    · rw [fr 4 (by decide) (by decide) (by decide) (by decide) (by decide)]
    · exact fr 24 (by decide) (by decide) (by decide) (by decide) (by decide)
    · exact fr 25 (by decide) (by decide) (by decide) (by decide) (by decide)
    · exact fr 270 (by decide) (by decide) (by decide) (by decide) (by decide)
    · exact fr 26 (by decide) (by decide) (by decide) (by decide) (by decide)
    · exact fr 273 (by decide) (by decide) (by decide) (by decide) (by decide)
    · show I2 259 29 = I2 1 12
      rw [g4, q1, f4]
    · exact fr 0 (by decide) (by decide) (by decide) (by decide) (by decide)
  · rw [f1 259 (by decide) (by decide)] at e' ⊢
    rw [f1 270 (by decide) (by decide)]
    rw [c6] at e'
    obtain ⟨k1, k2, k3⟩ := key j' hj' e'
    exact ⟨k2, c1, c5.trans k3, c2, fun i hi => ⟨Nat.lt_trans (c4 i hi).1 (by decide), (c4 i hi).2.2⟩⟩
  · obtain ⟨h1, h2⟩ := REL_tp (I2 := zz_ui I1 259 7 0) hR (RTp0 (by rw [zz_ui_ne _ _ _ (by decide)]; exact f2) (by rw [zz_ui_at, pk_us])) (fun c c1 c2 c3 c4 c5 _ => by rw [zz_ui_ne _ _ _ c4]; exact f1 c c1 c3) (fun x hx => by rw [zz_ui_at, pk_un hx, f1 259 (by decide) (by decide)])
    exact hQ _ J h1 h2 hT.up
end Two4

