/-! ===== two calls agree: joined lines, tape, codes, heaps, lists ===== -/
section Two3
variable {M : zz_M} {I : zz_I} {J : zz_J} {mT : Nat}
theorem two_both (d : Nat) (hO : OK M) (hR : REL I) (hm : mT ≤ 400000) (hT : RT J mT) {l m t : Int32} : TWO mX9_both (d + 71) [.ref 1, .int l, .int m, .int t] mX10_both (d + 71) [.ref 259, .int l, .int m, .int t] M I J mT := by
  intro P hP
  obtain ⟨n, kd, ag, E, sg, rw, hl⟩ := hR.1
  refine sp_X9_both (d + 68) hO hl.nn hl.e hl.c (fun j1 j2 j3 a1 a2 a3 a4 a5 a6 => ?_) (fun hv => hP _ I J (fun Q hQ => sp_X10_both (d + 68) hO hl.nn hl.m (fun k1 k2 k3 b1 b2 b3 b4 b5 b6 => absurd ⟨vin b1 b4, vin b2 b5, vin b3 b6⟩ hv) (fun _ => hQ I J hR rfl hT.up)) rfl)
  have hL8 : 24 < LN j3 ∧ LN j3 + 28 < 259 := by unfold LN; omega
  refine ⟨fun hf => hP _ I J (fun Q hQ => sp_X10_both (d + 68) hO hl.nn hl.m (fun k1 k2 k3 b1 b2 b3 b4 b5 b6 => ?_) (fun hv => absurd ⟨vin a1 a4, vin a2 a5, vin a3 a6⟩ hv)) rfl, fun hf I1 f1 f2 => hP _ I1 J (fun Q hQ => sp_X10_both (d + 68) hO hl.nn (hl.mo (fun c hc => f1 c (by omega) (by omega))) (fun k1 k2 k3 b1 b2 b3 b4 b5 b6 => ?_) (fun hv => absurd ⟨vin a1 a4, vin a2 a5, vin a3 a6⟩ hv)) (f1 0 (by decide) (by omega))⟩
  · have e1 := n8 a1 b1 (a4.symm.trans b4)
    have e2 := n8 a2 b2 (a5.symm.trans b5)
    subst e1; subst e2
    exact ⟨fun _ => hQ I J hR rfl hT.up, fun z => absurd hf (by omega)⟩
  · have e1 := n8 a1 b1 (a4.symm.trans b4)
    have e2 := n8 a2 b2 (a5.symm.trans b5)
    have e3 := n8 a3 b3 (a6.symm.trans b6)
    subst e1; subst e2; subst e3
    refine ⟨fun z => absurd hf (by omega), fun _ I2 g1 g2 g3 => ?_⟩
    rw [(hl.c j3 a3).2.2.1] at f2
    rw [f1 265 (by decide) (by omega), (hl.m j3 a3).2.2.1] at g3
    obtain ⟨h1, h2⟩ := LN_done hR hl a3 ⟨Nat.mul_pos (hl.nn j1 a1).1 (hl.nn j2 a2).1, hf, wfE_bE (hl.e j1 a1) (hl.e j2 a2), rok0, fun a _ i _ => b_0 i⟩ f1 f2 g1 g2 g3
    exact hQ I2 J h1 h2 hT.up
theorem two_either (d : Nat) (hO : OK M) (hR : REL I) (hm : mT ≤ 400000) (hT : RT J mT) {l m t : Int32} : TWO mX9_either (d + 71) [.ref 1, .int l, .int m, .int t] mX10_either (d + 71) [.ref 259, .int l, .int m, .int t] M I J mT := by
  intro P hP
  obtain ⟨n, kd, ag, E, sg, rw, hl⟩ := hR.1
  refine sp_X9_either (d + 68) hO hl.nn hl.e hl.c (fun j1 j2 j3 a1 a2 a3 a4 a5 a6 => ?_) (fun hv => hP _ I J (fun Q hQ => sp_X10_either (d + 68) hO hl.nn hl.e hl.m (fun k1 k2 k3 b1 b2 b3 b4 b5 b6 => absurd ⟨vin b1 b4, vin b2 b5, vin b3 b6⟩ hv) (fun _ => hQ I J hR rfl hT.up)) rfl)
  have hL8 : 24 < LN j3 ∧ LN j3 + 28 < 259 := by unfold LN; omega
  refine ⟨fun hf => hP _ I J (fun Q hQ => sp_X10_either (d + 68) hO hl.nn hl.e hl.m (fun k1 k2 k3 b1 b2 b3 b4 b5 b6 => ?_) (fun hv => absurd ⟨vin a1 a4, vin a2 a5, vin a3 a6⟩ hv)) rfl, fun hf I1 f1 f2 => hP _ I1 J (fun Q hQ => sp_X10_either (d + 68) hO hl.nn hl.e (hl.mo (fun c hc => f1 c (by omega) (by omega))) (fun k1 k2 k3 b1 b2 b3 b4 b5 b6 => ?_) (fun hv => absurd ⟨vin a1 a4, vin a2 a5, vin a3 a6⟩ hv)) (f1 0 (by decide) (by omega))⟩
  · have e1 := n8 a1 b1 (a4.symm.trans b4)
    have e2 := n8 a2 b2 (a5.symm.trans b5)
    subst e1; subst e2
    exact ⟨fun _ => hQ I J hR rfl hT.up, fun z => absurd hf (by omega)⟩
  · have e1 := n8 a1 b1 (a4.symm.trans b4)
    have e2 := n8 a2 b2 (a5.symm.trans b5)
    have e3 := n8 a3 b3 (a6.symm.trans b6)
    subst e1; subst e2; subst e3
    refine ⟨fun z => absurd hf (by omega), fun _ I2 g1 g2 g3 => ?_⟩
    rw [(hl.c j3 a3).2.2.1] at f2
    rw [f1 265 (by decide) (by omega), (hl.m j3 a3).2.2.1] at g3
    have hp := (hl.nn j1 a1).1
    obtain ⟨h1, h2⟩ := LN_done hR hl a3 ⟨by omega, hf, wfE_eE (hl.e j1 a1) (hl.e j2 a2), rok0, fun a _ i _ => b_0 i⟩ f1 f2 g1 g2 g3
    exact hQ I2 J h1 h2 hT.up
theorem two_end (d : Nat) (hO : OK M) (hR : REL I) (hm : mT ≤ 400000) (hT : RT J mT) {i : Int32} : TWO mX9_end (d + 71) [.ref 1, .int i] mX10_end (d + 71) [.ref 259, .int i] M I J mT := by
  intro P hP
  obtain ⟨tn, t1, t2, t3, t4⟩ := hR.2.1
  have h7 : zz_ui I 2 1 i 259 7 = nI tn := by rw [zz_ui_ne _ _ _ (by decide)]; exact t3
  refine sp_X9_end (d + 71) hO t2 t1 (fun hi => hP _ _ J (fun Q hQ => sp_X10_end (d + 70) hO h7 t1 (fun _ => ?_) (fun hv => absurd hi hv)) (zz_ui_ne _ _ _ (by decide))) (fun hv => hP _ I J (fun Q hQ => sp_X10_end (d + 70) hO t3 t1 (fun hi => absurd hi hv) (fun _ => hQ I J hR rfl hT.up)) rfl)
  obtain ⟨j, hj, rfl⟩ := vp_in_of hi (by omega)
  have fr : ∀ c, c ≠ 2 → c ≠ 259 → zz_ui (zz_ui I 2 1 (nI j)) 259 7 (nI j) c = I c := fun c c1 c2 => by rw [zz_ui_ne _ _ _ c2, zz_ui_ne _ _ _ c1]
  have f7 : ∀ x, x ≠ 7 → zz_ui (zz_ui I 2 1 (nI j)) 259 7 (nI j) 259 x = I 259 x := fun x hx => by rw [zz_ui_at, pk_un hx, zz_ui_ne _ _ _ (by decide)]
  refine hQ _ J ⟨hR.1.of (fun c a b e => fr c (by omega) e), ⟨j, by omega, ?_, by rw [zz_ui_at, pk_us], fun x hx => ?_⟩, hR.2.2.1.of (by rw [fr 4 (by decide) (by decide)]) (by rw [fr 4 (by decide) (by decide)]) (f7 8 (by decide)) (f7 9 (by decide)), hR.2.2.2.1.of (fr 24 (by decide) (by decide)) (fr 25 (by decide) (by decide)) (fr 270 (by decide) (by decide)) (f7 15 (by decide)) (f7 16 (by decide)) (f7 17 (by decide)) (f7 18 (by decide)), hR.2.2.2.2.1.of (by rw [fr 1 (by decide) (by decide)]) (fr 26 (by decide) (by decide)) (f7 21 (by decide)) (fr 273 (by decide) (by decide)), hR.2.2.2.2.2.1.of (by rw [fr 1 (by decide) (by decide)]) (f7 29 (by decide)), hR.2.2.2.2.2.2.of (by rw [fr 1 (by decide) (by decide)]) (f7 30 (by decide))⟩ (fr 0 (by decide) (by decide)) hT.up
  · rw [zz_ui_ne _ _ _ (by decide), zz_ui_at, pk_us]
  · rw [fr 3 (by decide) (by decide), fr 266 (by decide) (by decide)]; exact t4 x (by omega)
/-- the tape and all else but the tape -/
theorem REL_tp {I I2 : zz_I} (hR : REL I) (ht : RTp I2) (fr : ∀ c, c ≠ 2 → c ≠ 3 → c ≠ 5 → c ≠ 259 → c ≠ 266 → c ≠ 267 → I2 c = I c) (f7 : ∀ x, x ≠ 7 → I2 259 x = I 259 x) : REL I2 ∧ I2 0 = I 0 := by
  refine ⟨⟨hR.1.of (fun c a b e => fr c (by omega) (by omega) (by omega) e (by omega) (by omega)), ht, hR.2.2.1.of ?_ ?_ (f7 8 (by decide)) (f7 9 (by decide)), hR.2.2.2.1.of ?_ ?_ ?_ (f7 15 (by decide)) (f7 16 (by decide)) (f7 17 (by decide)) (f7 18 (by decide)), hR.2.2.2.2.1.of ?_ ?_ (f7 21 (by decide)) ?_, hR.2.2.2.2.2.1.of ?_ (f7 29 (by decide)), hR.2.2.2.2.2.2.of ?_ (f7 30 (by decide))⟩, ?_⟩
  all_goals rw [fr _ (by decide) (by decide) (by decide) (by decide) (by decide) (by decide)]
theorem two_feed (d : Nat) (hO : OK M) (hR : REL I) (hm : mT ≤ 400000) (hT : RT J mT) {a b c e f : Int32} : TWO mX9_feed (d + 71) [.ref 1, .int a, .int b, .int c, .int e, .int f] mX10_feed (d + 71) [.ref 259, .int a, .int b, .int c, .int e, .int f] M I J mT := by
  intro P hP
  obtain ⟨tn, t1, t2, t3, t4⟩ := hR.2.1
  refine sp_X9_feed (d + 70) hO t2 t1 (fun h20 I1 f1 f2 f3 => hP _ I1 J (fun Q hQ => sp_X10_feed (d + 70) hO (by rw [f1 259 (by decide) (by decide)]; exact t3) t1 (fun _ I2 g1 g2 g3 => ?_) (fun hv => absurd h20 hv)) (f1 0 (by decide) (by decide))) (fun hv => hP _ I J (fun Q hQ => sp_X10_feed (d + 70) hO t3 t1 (fun h20 => absurd h20 hv) (fun _ => hQ I J hR rfl hT.up)) rfl)
  have ht : RTp I2 := by
    refine ⟨tn + 20, h20, ?_, ?_, fun i hi => ?_⟩
    · rw [g1 2 (by decide) (by decide), f2, pk_us]
    · rw [g2, pk_us]
    · rw [g1 3 (by decide) (by decide), f3, g3, f1 266 (by decide) (by decide)]
      have wr2 := wr_rel (P := tby) (cby a ++ (cby b ++ (cby c ++ (cby e ++ cby f)))) (mby a ++ (mby b ++ (mby c ++ (mby e ++ mby f)))) (I 3) (I 266) tn rfl t4
      refine wr2 (fun q hq => ?_) i hi
      have hz : ∀ v : Int32, ∀ (xs ys : List Int32), (∀ q ∈ xs.zip ys, tby q.1 q.2) → ∀ q ∈ (cby v ++ xs).zip (mby v ++ ys), tby q.1 q.2 := fun v xs ys h q hq => by
        rw [List.zip_append (show (cby v).length = (mby v).length from rfl)] at hq
        exact (List.mem_append.mp hq).elim (by_all v q) (h q)
      exact hz a _ _ (hz b _ _ (hz c _ _ (hz e _ _ (by_all f)))) q hq
  obtain ⟨h1, h2⟩ := REL_tp (I2 := I2) hR ht (fun c c1 c2 _ c3 c4 _ => by rw [g1 c c3 c4]; exact f1 c c1 c2) (fun x hx => by rw [g2, pk_un hx, f1 259 (by decide) (by decide)])
  exact hQ I2 J h1 h2 hT.up
end Two3

