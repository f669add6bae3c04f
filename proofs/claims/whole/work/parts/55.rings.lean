/-! ===== lone words and rings: pure ===== -/
section Rings
variable {N : Nat → Nat → Bool}
theorem al_lone (sy : ∀ x y, N x y = N y x) : ∀ {i : Nat} {A L : Nat → Bool}, (∀ x, L x = true → A x = true) → (∀ x w, L x = true → A w = true → N x w = true → w = x) → al N i A = fb_ct L i + al N i (mi A L)
  | 0, A, L, _, _ => rfl
  | i + 1, A, L, h1, h2 => by
    have ih : al N i A = fb_ct L i + al N i (mi A L) := al_lone sy h1 h2
    rw [fb_ct_succ]
    by_cases a : A i = true
    · rw [al_y a]
      by_cases b : L i = true
      · rw [if_pos b, al_n (A := mi A L) (by rw [mi_t, b]; simp)]
        rw [al_ext (A := mi A (N i)) (B := A) (fun w hw => by
          unfold mi
          cases c : A w with
          | false => rfl
          | true =>
            cases e : N i w with
            | false => rfl
            | true => have := h2 i w b c e; omega)]
        omega
      · have b2 : L i = false := by simpa using b
        rw [if_neg b, al_y (A := mi A L) (by rw [mi_t]; exact ⟨a, b2⟩)]
        have nl : ∀ x, L x = true → N i x = false := fun x hx => by
          cases c : N i x with
          | false => rfl
          | true =>
            have := h2 x i hx a (by rw [sy]; exact c)
            rw [this, hx] at b2
            cases b2
        have ih2 : al N i (mi A (N i)) = fb_ct L i + al N i (mi (mi A (N i)) L) := al_lone sy (fun x hx => mi_t.mpr ⟨h1 x hx, nl x hx⟩) (fun x w hx hw => h2 x w hx (mi_t.mp hw).1)
        rw [al_ext (A := mi (mi A L) (N i)) (B := mi (mi A (N i)) L) (fun w hw => by show (A w && !L w && !N i w) = (A w && !N i w && !L w); cases A w <;> cases N i w <;> cases L w <;> rfl)]
        omega
    · rw [al_n a, al_n (A := mi A L) (by rw [mi_t]; exact fun q => a q.1), if_neg (fun q => a (h1 i q))]
      omega
theorem ct_rm {A : Nat → Bool} {v i : Nat} (hv : v < i) (av : A v = true) : fb_ct (rm A v) i + 1 = fb_ct A i := by
  have h := fb_ct_upd A false hv
  rw [if_pos av, if_neg (by decide)] at h
  rw [← Nat.add_zero (fb_ct A i), ← h]
  congr 1
  refine fb_ct_cong (fun k hk => ?_)
  unfold rm
  by_cases e : k = v <;> simp [e]
/-- one near word; two near words -/
def d1 (N : Nat → Nat → Bool) (A : Nat → Bool) (p q : Nat) : Prop := A q = true ∧ q ≠ p ∧ N p q = true ∧ ∀ w, A w = true → w ≠ p → N p w = true → w = q
def d2 (N : Nat → Nat → Bool) (A : Nat → Bool) (u x y : Nat) : Prop := x ≠ y ∧ x ≠ u ∧ y ≠ u ∧ A x = true ∧ A y = true ∧ N u x = true ∧ N u y = true ∧ ∀ w, A w = true → w ≠ u → N u w = true → w = x ∨ w = y
theorem d2.flip {A : Nat → Bool} {u x y : Nat} (h : d2 N A u x y) : d2 N A u y x :=
  ⟨h.1.symm, h.2.2.1, h.2.1, h.2.2.2.2.1, h.2.2.2.1, h.2.2.2.2.2.2.1, h.2.2.2.2.2.1, fun w a b c => (h.2.2.2.2.2.2.2 w a b c).symm⟩
/-- a neighbour of two: put first -/
theorem d2.with {A : Nat → Bool} {u x y p : Nat} (h : d2 N A u x y) (hp : A p = true) (hn : p ≠ u) (hN : N u p = true) : ∃ z, d2 N A u p z := by
  rcases h.2.2.2.2.2.2.2 p hp hn hN with e | e
  · exact ⟨y, e ▸ h⟩
  · exact ⟨x, e ▸ h.flip⟩
/-- a leaf taken -/
theorem al_d1 (sy : ∀ x y, N x y = N y x) (rf : ∀ x, N x x = true) {i : Nat} {A : Nat → Bool} {p q : Nat} (hi : p < i) (hp : A p = true) (h : d1 N A p q) : al N i A = 1 + al N i (rm (rm A p) q) := by
  rw [al_leaf sy rf hi hp (fun x y _ _ x1 y1 x2 y2 x3 y3 => (h.2.2.2 x x1 x2 x3).trans (h.2.2.2 y y1 y2 y3).symm)]
  congr 1
  refine al_ext (fun w hw => ?_)
  rw [Bool.eq_iff_iff, mi_t, rm_t, rm_t]
  constructor
  · rintro ⟨a, b⟩
    refine ⟨⟨a, fun e => ?_⟩, fun e => ?_⟩
    · rw [e, rf] at b; cases b
    · rw [e, h.2.2.1] at b; cases b
  · rintro ⟨⟨a, b⟩, c⟩
    refine ⟨a, ?_⟩
    cases e : N p w with
    | false => rfl
    | true => exact absurd (h.2.2.2 w a b e) c
theorem rm_comm (A : Nat → Bool) (p q : Nat) : rm (rm A p) q = rm (rm A q) p := by
  funext w
  show (A w && !decide (w = p) && !decide (w = q)) = (A w && !decide (w = q) && !decide (w = p))
  cases A w <;> cases decide (w = p) <;> cases decide (w = q) <;> rfl
theorem al_path (sy : ∀ x y, N x y = N y x) (rf : ∀ x, N x x = true) {i : Nat} : ∀ (c : Nat) (A : Nat → Bool) (p q p' q' : Nat), fb_ct A i ≤ c → (∀ w, A w = true → w < i) → A p = true → A q = true → p ≠ q → d1 N A p p' → d1 N A q q' → (∀ u, A u = true → u ≠ p → u ≠ q → ∃ x y, d2 N A u x y) → al N i (rm A p) = al N i (rm A q)
  | 0, A, p, q, p', q', hc, hA, ap, aq, hpq, _, _, _ => by
    have := fb_ct_pos.mpr ⟨p, hA p ap, ap⟩
    omega
  | c + 1, A, p, q, p', q', hc, hA, ap, aq, hpq, e1, e2, e3 => by
    by_cases epq : p' = q
    · subst epq
      have hN : N p' p = true := by rw [sy]; exact e1.2.2.1
      have eq' : p = q' := e2.2.2.2 p ap hpq hN
      subst eq'
      have lone1 : al N i (rm A p) = 1 + al N i (rm (rm A p) p') := by
        rw [al_leaf sy rf (hA p' aq) (rm_t.mpr ⟨aq, hpq.symm⟩) (fun x y _ _ x1 y1 x2 y2 x3 y3 => by
          rw [rm_t] at x1
          exact absurd (e2.2.2.2 x x1.1 x2 x3) x1.2)]
        congr 1
        refine al_ext (fun w hw => ?_)
        rw [Bool.eq_iff_iff, mi_t, rm_t, rm_t, rm_t]
        constructor
        · rintro ⟨⟨a, b⟩, c⟩
          exact ⟨⟨a, b⟩, fun e => by rw [e, rf] at c; cases c⟩
        · rintro ⟨⟨a, b⟩, c⟩
          refine ⟨⟨a, b⟩, ?_⟩
          cases e : N p' w with
          | false => rfl
          | true => exact absurd (e2.2.2.2 w a c e) b
      have lone2 : al N i (rm A p') = 1 + al N i (rm (rm A p') p) := by
        rw [al_leaf sy rf (hA p ap) (rm_t.mpr ⟨ap, hpq⟩) (fun x y _ _ x1 y1 x2 y2 x3 y3 => by
          rw [rm_t] at x1
          exact absurd (e1.2.2.2 x x1.1 x2 x3) x1.2)]
        congr 1
        refine al_ext (fun w hw => ?_)
        rw [Bool.eq_iff_iff, mi_t, rm_t, rm_t, rm_t]
        constructor
        · rintro ⟨⟨a, b⟩, c⟩
          exact ⟨⟨a, b⟩, fun e => by rw [e, rf] at c; cases c⟩
        · rintro ⟨⟨a, b⟩, c⟩
          refine ⟨⟨a, b⟩, ?_⟩
          cases e : N p w with
          | false => rfl
          | true => exact absurd (e1.2.2.2 w a c e) b
      rw [lone1, lone2, rm_comm]
    · have eqp : q' ≠ p := fun e => by
        rw [e] at e2
        exact epq (e1.2.2.2 q aq hpq.symm (by rw [sy]; exact e2.2.2.1)).symm
      have r1 : al N i (rm A p) = 1 + al N i (rm (rm (rm A p) q) q') := al_d1 sy rf (hA q aq) (rm_t.mpr ⟨aq, hpq.symm⟩) ⟨rm_t.mpr ⟨e2.1, eqp⟩, e2.2.1, e2.2.2.1, fun w a b c => e2.2.2.2 w (rm_t.mp a).1 b c⟩
      have r2 : al N i (rm A q) = 1 + al N i (rm (rm (rm A q) p) p') := al_d1 sy rf (hA p ap) (rm_t.mpr ⟨ap, hpq⟩) ⟨rm_t.mpr ⟨e1.1, epq⟩, e1.2.1, e1.2.2.1, fun w a b c => e1.2.2.2 w (rm_t.mp a).1 b c⟩
      rw [r1, r2, rm_comm A q p]
      congr 1
      by_cases epp : p' = q'
      · rw [epp]
      · have cB : fb_ct (rm (rm A p) q) i ≤ c := by
          have c1 := ct_rm (hA p ap) ap
          have c2 := ct_rm (A := rm A p) (hA q aq) (rm_t.mpr ⟨aq, hpq.symm⟩)
          omega
        have hB : ∀ w, rm (rm A p) q w = true ↔ A w = true ∧ w ≠ p ∧ w ≠ q := fun w => by
          rw [rm_t, rm_t]
          exact ⟨fun z => ⟨z.1.1, z.1.2, z.2⟩, fun z => ⟨⟨z.1, z.2.1⟩, z.2.2⟩⟩
        obtain ⟨x1, y1, w1⟩ := e3 p' e1.1 e1.2.1 epq
        obtain ⟨z1, w1⟩ := w1.with ap e1.2.1.symm (by rw [sy]; exact e1.2.2.1)
        obtain ⟨x2, y2, w2⟩ := e3 q' e2.1 eqp e2.2.1
        obtain ⟨z2, w2⟩ := w2.with aq e2.2.1.symm (by rw [sy]; exact e2.2.2.1)
        have n1 : z1 ≠ q := fun e => by
          have := w1.2.2.2.2.2.2.1
          rw [e, sy] at this
          exact epp (e2.2.2.2 p' e1.1 epq this)
        have n2 : z2 ≠ p := fun e => by
          have := w2.2.2.2.2.2.2.1
          rw [e, sy] at this
          exact epp (e1.2.2.2 q' e2.1 eqp this).symm
        refine (al_path sy rf c (rm (rm A p) q) p' q' z1 z2 cB (fun w hw => hA w ((hB w).mp hw).1) ((hB p').mpr ⟨e1.1, e1.2.1, epq⟩) ((hB q').mpr ⟨e2.1, eqp, e2.2.1⟩) epp ?_ ?_ ?_).symm
        · refine ⟨(hB z1).mpr ⟨w1.2.2.2.2.1, w1.1.symm, n1⟩, w1.2.2.1, w1.2.2.2.2.2.2.1, fun w a b c => ?_⟩
          have a2 := (hB w).mp a
          exact (w1.2.2.2.2.2.2.2 w a2.1 b c).elim (fun e => absurd e a2.2.1) id
        · refine ⟨(hB z2).mpr ⟨w2.2.2.2.2.1, n2, w2.1.symm⟩, w2.2.2.1, w2.2.2.2.2.2.2.1, fun w a b c => ?_⟩
          have a2 := (hB w).mp a
          exact (w2.2.2.2.2.2.2.2 w a2.1 b c).elim (fun e => absurd e a2.2.2) id
        · intro u hu u1 u2
          have hu2 := (hB u).mp hu
          obtain ⟨x, y, w⟩ := e3 u hu2.1 hu2.2.1 hu2.2.2
          have nx : ∀ t, A t = true → N u t = true → t ≠ p ∧ t ≠ q := fun t ht hn => by
            constructor
            · intro e
              rw [e, sy] at hn
              exact u1 (e1.2.2.2 u hu2.1 hu2.2.1 hn)
            · intro e
              rw [e, sy] at hn
              exact u2 (e2.2.2.2 u hu2.1 hu2.2.2 hn)
          exact ⟨x, y, w.1, w.2.1, w.2.2.1, (hB x).mpr ⟨w.2.2.2.1, nx x w.2.2.2.1 w.2.2.2.2.2.1⟩, (hB y).mpr ⟨w.2.2.2.2.1, nx y w.2.2.2.2.1 w.2.2.2.2.2.2.1⟩, w.2.2.2.2.2.1, w.2.2.2.2.2.2.1, fun t a b c => w.2.2.2.2.2.2.2 t ((hB t).mp a).1 b c⟩
/-- any word of a ring is in a largest code of it -/
theorem al_ring (sy : ∀ x y, N x y = N y x) (rf : ∀ x, N x x = true) {i : Nat} {A : Nat → Bool} {v : Nat} (hA : ∀ w, A w = true → w < i) (av : A v = true) (h : ∀ u, A u = true → ∃ x y, d2 N A u x y) : al N i A = 1 + al N i (mi A (N v)) := by
  obtain ⟨a, b, w⟩ := h v av
  have hb := al_br sy rf (hA v av) av
  have aa := w.2.2.2.1
  have ab := w.2.2.2.2.1
  have hset : al N i (mi A (N v)) = al N i (rm (rm (rm A v) a) b) := al_ext (fun t ht => by
    rw [Bool.eq_iff_iff, mi_t, rm_t, rm_t, rm_t]
    constructor
    · rintro ⟨c, e⟩
      refine ⟨⟨⟨c, fun z => ?_⟩, fun z => ?_⟩, fun z => ?_⟩
      · rw [z, rf] at e; cases e
      · rw [z, w.2.2.2.2.2.1] at e; cases e
      · rw [z, w.2.2.2.2.2.2.1] at e; cases e
    · rintro ⟨⟨⟨c, e⟩, f⟩, g⟩
      refine ⟨c, ?_⟩
      cases q : N v t with
      | false => rfl
      | true => exact ((w.2.2.2.2.2.2.2 t c e q).elim f g).elim)
  obtain ⟨xa, ya, wa⟩ := h a aa
  obtain ⟨z, wa⟩ := wa.with av w.2.1.symm (by rw [sy]; exact w.2.2.2.2.2.1)
  have s1 : al N i (rm A v) = 1 + al N i (rm (rm (rm A v) a) z) := al_d1 sy rf (hA a aa) (rm_t.mpr ⟨aa, w.2.1⟩) ⟨rm_t.mpr ⟨wa.2.2.2.2.1, wa.1.symm⟩, wa.2.2.1, wa.2.2.2.2.2.2.1, fun t t1 t2 t3 => (wa.2.2.2.2.2.2.2 t (rm_t.mp t1).1 t2 t3).elim (fun e => absurd e (rm_t.mp t1).2) id⟩
  have key : al N i (rm (rm (rm A v) a) z) = al N i (rm (rm (rm A v) a) b) := by
    by_cases ez : z = b
    · rw [ez]
    · have hC : ∀ t, rm (rm A v) a t = true ↔ A t = true ∧ t ≠ v ∧ t ≠ a := fun t => by
        rw [rm_t, rm_t]
        exact ⟨fun y => ⟨y.1.1, y.1.2, y.2⟩, fun y => ⟨⟨y.1, y.2.1⟩, y.2.2⟩⟩
      obtain ⟨x1, y1, u1⟩ := h z wa.2.2.2.2.1
      obtain ⟨t1, u1⟩ := u1.with aa wa.2.2.1.symm (by rw [sy]; exact wa.2.2.2.2.2.2.1)
      obtain ⟨x2, y2, u2⟩ := h b ab
      obtain ⟨t2, u2⟩ := u2.with av w.2.2.1.symm (by rw [sy]; exact w.2.2.2.2.2.2.1)
      have n1 : t1 ≠ v := fun e => by
        have := u1.2.2.2.2.2.2.1
        rw [e, sy] at this
        exact (w.2.2.2.2.2.2.2 z wa.2.2.2.2.1 wa.1.symm this).elim wa.2.2.1 ez
      have n2 : t2 ≠ a := fun e => by
        have := u2.2.2.2.2.2.2.1
        rw [e, sy] at this
        exact (wa.2.2.2.2.2.2.2 b ab w.1.symm this).elim w.2.2.1 (fun e => ez e.symm)
      refine al_path sy rf _ (rm (rm A v) a) z b t1 t2 (Nat.le_refl _) (fun t ht => hA t ((hC t).mp ht).1) ((hC z).mpr ⟨wa.2.2.2.2.1, wa.1.symm, wa.2.2.1⟩) ((hC b).mpr ⟨ab, w.2.2.1, w.1.symm⟩) ez ?_ ?_ ?_
      · refine ⟨(hC t1).mpr ⟨u1.2.2.2.2.1, n1, u1.1.symm⟩, u1.2.2.1, u1.2.2.2.2.2.2.1, fun t c e f => ?_⟩
        have c2 := (hC t).mp c
        exact (u1.2.2.2.2.2.2.2 t c2.1 e f).elim (fun g => absurd g c2.2.2) id
      · refine ⟨(hC t2).mpr ⟨u2.2.2.2.2.1, u2.1.symm, n2⟩, u2.2.2.1, u2.2.2.2.2.2.2.1, fun t c e f => ?_⟩
        have c2 := (hC t).mp c
        exact (u2.2.2.2.2.2.2.2 t c2.1 e f).elim (fun g => absurd g c2.2.1) id
      · intro u hu u3 u4
        have hu2 := (hC u).mp hu
        obtain ⟨x, y, ww⟩ := h u hu2.1
        have nx : ∀ t, A t = true → N u t = true → t ≠ v ∧ t ≠ a := fun t ht hn => by
          constructor
          · intro e
            rw [e, sy] at hn
            exact (w.2.2.2.2.2.2.2 u hu2.1 hu2.2.1 hn).elim hu2.2.2 u4
          · intro e
            rw [e, sy] at hn
            exact (wa.2.2.2.2.2.2.2 u hu2.1 hu2.2.2 hn).elim hu2.2.1 u3
        exact ⟨x, y, ww.1, ww.2.1, ww.2.2.1, (hC x).mpr ⟨ww.2.2.2.1, nx x ww.2.2.2.1 ww.2.2.2.2.2.1⟩, (hC y).mpr ⟨ww.2.2.2.2.1, nx y ww.2.2.2.2.1 ww.2.2.2.2.2.2.1⟩, ww.2.2.2.2.2.1, ww.2.2.2.2.2.2.1, fun t a b c => ww.2.2.2.2.2.2.2 t ((hC t).mp a).1 b c⟩
  rw [hb, s1, key, ← hset]
  omega
end Rings

