/-! ===== the relation between both sides ===== -/
def wfl (n : Nat) (E : Nat → Nat → Bool) (sg : Nat → Int32) (rw : Nat → Nat → Int32) : Prop := 1 ≤ n ∧ n ≤ 24 ∧ wfE n E ∧ rok rw ∧ ∀ a, a < n → ∀ i, 24 ≤ i → bt (sg a) i = false
def LNS (I : zz_I) (n : Nat → Nat) (kd ag : Nat → Int32) (E : Nat → Nat → Nat → Bool) (sg : Nat → Nat → Int32) (rw : Nat → Nat → Nat → Int32) : Prop := ∀ j, j < 8 → wfl (n j) (E j) (sg j) (rw j) ∧ CL I j (n j) (kd j) (ag j) (E j) (sg j) (rw j) ∧ ML I j (n j) (kd j) (ag j) (E j) (sg j) (rw j)
def RLn (I : zz_I) : Prop := ∃ (n : Nat → Nat) (kd ag : Nat → Int32) (E : Nat → Nat → Nat → Bool) (sg : Nat → Nat → Int32) (rw : Nat → Nat → Nat → Int32), LNS I n kd ag E sg rw
def RTp (I : zz_I) : Prop := ∃ n : Nat, n ≤ 600 ∧ I 2 1 = nI n ∧ I 259 7 = nI n ∧ ∀ i, i < n → tby (I 3 i) (I 266 i)
def RFt (I : zz_I) : Prop := I 259 8 = I 4 2 ∧ I 259 9 = I 4 3
def RCd (I : zz_I) : Prop := ∃ (sz k : Nat) (ws : Nat → Nat), sz ≤ 64 ∧ k ≤ 6 ∧ I 24 1 = nI sz ∧ (∀ i, i < sz → ws i < 64 ∧ I 25 i = nI (ws i) ∧ I 270 i = nI (ws i)) ∧ I 259 16 = I 24 2 ∧ I 259 17 = I 24 3 ∧ I 259 18 = I 24 4 ∧ ((sz = 0 ∧ I 259 15 = -1 ∧ I 24 3 = -1) ∨ (1 ≤ sz ∧ I 259 15 = nI sz ∧ I 24 2 = nI k))
def RHp (I : zz_I) : Prop := ∃ h : Nat, h ≤ 24 ∧ I 1 11 = nI h ∧ I 259 21 = nI h ∧ ∀ i, i < h → I 26 i = I 273 i
def RSt (I : zz_I) : Prop := I 259 29 = I 1 12
def RLi (I : zz_I) : Prop := I 259 30 = I 1 13
def REL (I : zz_I) : Prop := RLn I ∧ RTp I ∧ RFt I ∧ RCd I ∧ RHp I ∧ RSt I ∧ RLi I
theorem nI_inj {a b : Nat} (ha : a < 2 ^ 31) (hb : b < 2 ^ 31) (e : nI a = nI b) : a = b := (nI_eq ha hb).mp e
theorem n8 {a b : Nat} (ha : a < 8) (hb : b < 8) (e : nI a = nI b) : a = b := nI_inj (by omega) (by omega) e
section Rel
variable {I I' : zz_I}
theorem RLn.of (h : RLn I) (hc : ∀ c, 26 < c → c < 266 → c ≠ 259 → I' c = I c) : RLn I' := by
  obtain ⟨n, kd, ag, E, sg, rw, hl⟩ := h
  exact ⟨n, kd, ag, E, sg, rw, fun j hj => ⟨(hl j hj).1, CL_of (fun c h1 h2 => hc c h1 (by omega) (by omega)) hj (hl j hj).2.1, ML_of (fun c h1 h2 => hc c (by omega) (by omega) (by omega)) (hl j hj).2.2⟩⟩
theorem RTp.of (h : RTp I) (h2 : I' 2 1 = I 2 1) (h3 : I' 3 = I 3) (h7 : I' 259 7 = I 259 7) (h4 : I' 266 = I 266) : RTp I' := by
  obtain ⟨n, a, b, c, e⟩ := h
  exact ⟨n, a, h2.trans b, h7.trans c, fun i hi => by rw [h3, h4]; exact e i hi⟩
theorem RFt.of (h : RFt I) (h2 : I' 4 2 = I 4 2) (h3 : I' 4 3 = I 4 3) (h8 : I' 259 8 = I 259 8) (h9 : I' 259 9 = I 259 9) : RFt I' := by
  unfold RFt
  rw [h2, h3, h8, h9]
  exact h
theorem RCd.of (h : RCd I) (h1 : I' 24 = I 24) (h2 : I' 25 = I 25) (h3 : I' 270 = I 270) (h15 : I' 259 15 = I 259 15) (h16 : I' 259 16 = I 259 16) (h17 : I' 259 17 = I 259 17) (h18 : I' 259 18 = I 259 18) : RCd I' := by
  unfold RCd
  rw [h1, h2, h3, h15, h16, h17, h18]
  exact h
theorem RHp.of (h : RHp I) (h1 : I' 1 11 = I 1 11) (h2 : I' 26 = I 26) (h3 : I' 259 21 = I 259 21) (h4 : I' 273 = I 273) : RHp I' := by
  unfold RHp
  rw [h1, h2, h3, h4]
  exact h
theorem RSt.of (h : RSt I) (h1 : I' 1 12 = I 1 12) (h2 : I' 259 29 = I 259 29) : RSt I' := by
  unfold RSt
  rw [h1, h2]
  exact h
theorem RLi.of (h : RLi I) (h1 : I' 1 13 = I 1 13) (h2 : I' 259 30 = I 259 30) : RLi I' := by
  unfold RLi
  rw [h1, h2]
  exact h
/-- nothing that shows has changed -/
def NV (I I' : zz_I) : Prop := (∀ c, (c < 5 ∨ 23 < c) → c ≠ 259 → c ≠ 267 → c ≠ 268 → c ≠ 271 → c ≠ 272 → I' c = I c) ∧ ∀ i, i ≠ 13 → i ≠ 25 → i ≠ 28 → I' 259 i = I 259 i
theorem NV.rf : NV I I := ⟨fun _ _ _ _ _ _ _ => rfl, fun _ _ _ _ => rfl⟩
theorem NV.tr {I1 I2 : zz_I} (h : NV I I1) (h2 : NV I1 I2) : NV I I2 := ⟨fun c a b e f g i => (h2.1 c a b e f g i).trans (h.1 c a b e f g i), fun i a b c => (h2.2 i a b c).trans (h.2 i a b c)⟩
/-- the class worked unseen -/
theorem NV.c (h : ∀ c, (c < 5 ∨ 23 < c) → I' c = I c) : NV I I' := ⟨fun c a _ _ _ _ _ => h c a, fun i _ _ _ => by rw [h 259 (by decide)]⟩
/-- the reference worked unseen -/
theorem NV.m (h : ∀ c, c ≠ 259 → c ≠ 267 → c ≠ 268 → c ≠ 271 → c ≠ 272 → I' c = I c) (h2 : ∀ i, i ≠ 13 → i ≠ 25 → i ≠ 28 → I' 259 i = I 259 i) : NV I I' := ⟨fun c _ b d e f g => h c b d e f g, h2⟩
theorem NV.at (h : NV I I') {c : Nat} (hc : (c < 5 ∨ 23 < c) ∧ c ≠ 259 ∧ c ≠ 267 ∧ c ≠ 268 ∧ c ≠ 271 ∧ c ≠ 272) : I' c = I c := h.1 c hc.1 hc.2.1 hc.2.2.1 hc.2.2.2.1 hc.2.2.2.2.1 hc.2.2.2.2.2
theorem NV.ln (h : NV I I') (hr : RLn I) : RLn I' := hr.of (fun c a b d => h.at (by omega))
theorem NV.tp (h : NV I I') (hr : RTp I) : RTp I' := hr.of (by rw [h.at (by decide)]) (h.at (by decide)) (h.2 7 (by decide) (by decide) (by decide)) (h.at (by decide))
theorem NV.ft (h : NV I I') (hr : RFt I) : RFt I' := hr.of (by rw [h.at (by decide)]) (by rw [h.at (by decide)]) (h.2 8 (by decide) (by decide) (by decide)) (h.2 9 (by decide) (by decide) (by decide))
theorem NV.cd (h : NV I I') (hr : RCd I) : RCd I' := hr.of (h.at (by decide)) (h.at (by decide)) (h.at (by decide)) (h.2 15 (by decide) (by decide) (by decide)) (h.2 16 (by decide) (by decide) (by decide)) (h.2 17 (by decide) (by decide) (by decide)) (h.2 18 (by decide) (by decide) (by decide))
theorem NV.hp (h : NV I I') (hr : RHp I) : RHp I' := hr.of (by rw [h.at (by decide)]) (h.at (by decide)) (h.2 21 (by decide) (by decide) (by decide)) (h.at (by decide))
theorem NV.st (h : NV I I') (hr : RSt I) : RSt I' := hr.of (by rw [h.at (by decide)]) (h.2 29 (by decide) (by decide) (by decide))
theorem NV.li (h : NV I I') (hr : RLi I) : RLi I' := hr.of (by rw [h.at (by decide)]) (h.2 30 (by decide) (by decide) (by decide))
theorem NV.rel (h : NV I I') (hr : REL I) : REL I' := ⟨h.ln hr.1, h.tp hr.2.1, h.ft hr.2.2.1, h.cd hr.2.2.2.1, h.hp hr.2.2.2.2.1, h.st hr.2.2.2.2.2.1, h.li hr.2.2.2.2.2.2⟩
theorem NV.z (h : NV I I') : I' 0 = I 0 := h.at (by decide)
/-- a line has changed, nothing else that shows -/
theorem REL_ln (hr : REL I) (hl : RLn I') (tot : ∀ c, (c < 5 ∨ (23 < c ∧ c < 27) ∨ c = 259 ∨ c = 266 ∨ c = 270 ∨ c = 273) → I' c = I c) : REL I' :=
  ⟨hl, hr.2.1.of (by rw [tot 2 (by decide)]) (tot 3 (by decide)) (by rw [tot 259 (by decide)]) (tot 266 (by decide)), hr.2.2.1.of (by rw [tot 4 (by decide)]) (by rw [tot 4 (by decide)]) (by rw [tot 259 (by decide)]) (by rw [tot 259 (by decide)]),
   hr.2.2.2.1.of (tot 24 (by decide)) (tot 25 (by decide)) (tot 270 (by decide)) (by rw [tot 259 (by decide)]) (by rw [tot 259 (by decide)]) (by rw [tot 259 (by decide)]) (by rw [tot 259 (by decide)]),
   hr.2.2.2.2.1.of (by rw [tot 1 (by decide)]) (tot 26 (by decide)) (by rw [tot 259 (by decide)]) (tot 273 (by decide)), hr.2.2.2.2.2.1.of (by rw [tot 1 (by decide)]) (by rw [tot 259 (by decide)]), hr.2.2.2.2.2.2.of (by rw [tot 1 (by decide)]) (by rw [tot 259 (by decide)])⟩
theorem RLn_set {n : Nat → Nat} {kd ag : Nat → Int32} {E : Nat → Nat → Nat → Bool} {sg : Nat → Nat → Int32} {rw : Nat → Nat → Nat → Int32} {j n' : Nat} {kd' ag' : Int32} {E' : Nat → Nat → Bool} {sg' : Nat → Int32} {rw' : Nat → Nat → Int32} (h : LNS I n kd ag E sg rw) (w' : wfl n' E' sg' rw') (c' : CL I' j n' kd' ag' E' sg' rw') (m' : ML I' j n' kd' ag' E' sg' rw') (hc : ∀ l, l < 8 → l ≠ j → CL I' l (n l) (kd l) (ag l) (E l) (sg l) (rw l) ∧ ML I' l (n l) (kd l) (ag l) (E l) (sg l) (rw l)) : RLn I' := by
  refine ⟨fun l => if l = j then n' else n l, fun l => if l = j then kd' else kd l, fun l => if l = j then ag' else ag l, fun l => if l = j then E' else E l, fun l => if l = j then sg' else sg l, fun l => if l = j then rw' else rw l, fun l hl => ?_⟩
  by_cases e : l = j
  · subst e
    simp only [if_true]
    exact ⟨w', c', m'⟩
  · simp only [if_neg e]
    exact ⟨(h l hl).1, hc l hl e⟩
end Rel
/-! pure: what the changed lines are -/
theorem rok0 : rok (fun _ _ => 0) := fun _ _ _ _ => by
  show -30 ≤ (0 : Int32).toInt ∧ (0 : Int32).toInt ≤ 30
  decide
theorem wfE0 (n : Nat) : wfE n (fun _ _ => false) := fun _ _ h => by cases h
theorem wfE_re {n : Nat} (hn : 3 ≤ n) : wfE n (re n n) := by
  intro x y h
  unfold re at h ⊢
  rw [Bool.or_eq_true, decide_eq_true_eq, decide_eq_true_eq] at h
  rcases h with ⟨h1, h2⟩ | ⟨h1, h2⟩
  · obtain ⟨a, b, c⟩ := nx_ne hn h1
    refine ⟨h1, by omega, by omega, ?_⟩
    rw [Bool.or_eq_true, decide_eq_true_eq, decide_eq_true_eq]
    exact Or.inr ⟨h1, h2⟩
  · obtain ⟨a, b, c⟩ := nx_ne hn h1
    refine ⟨by omega, h1, by omega, ?_⟩
    rw [Bool.or_eq_true, decide_eq_true_eq, decide_eq_true_eq]
    exact Or.inl ⟨h1, h2⟩
theorem wfE_tg {n a b : Nat} {E : Nat → Nat → Bool} (h : wfE n E) (ha : a < n) (hb : b < n) (hab : a ≠ b) : wfE n (tg E a b) := by
  have sy : ∀ x y, E x y = E y x := fun x y => by
    cases c : E x y with
    | true => exact (h x y c).2.2.2.symm
    | false =>
      cases c2 : E y x with
      | false => rfl
      | true => rw [(h y x c2).2.2.2] at c; cases c
  have st : ∀ x y, tg E a b x y = tg E a b y x := fun x y => by
    unfold tg
    rw [sy x y, Bool.or_comm]
    congr 1
    rw [Bool.eq_iff_iff, Bool.or_eq_true, Bool.or_eq_true, decide_eq_true_eq, decide_eq_true_eq, decide_eq_true_eq, decide_eq_true_eq]
    omega
  intro x y hxy
  have key : x < n ∧ y < n ∧ x ≠ y := by
    by_cases c : (x = a ∧ y = b) ∨ (x = b ∧ y = a)
    · omega
    · unfold tg at hxy
      have : (decide (x = a ∧ y = b) || decide (x = b ∧ y = a)) = false := by
        rw [Bool.or_eq_false_iff, decide_eq_false_iff_not, decide_eq_false_iff_not]
        exact ⟨fun z => c (Or.inl z), fun z => c (Or.inr z)⟩
      rw [this, Bool.xor_false] at hxy
      obtain ⟨z1, z2, z3, -⟩ := h x y hxy
      exact ⟨z1, z2, z3⟩
  exact ⟨key.1, key.2.1, key.2.2, by rw [st y x]; exact hxy⟩
theorem lk_sy {n : Nat} {E : Nat → Nat → Bool} (h : wfE n E) {x y : Nat} (hl : lk E x y) : lk E y x := hl.elim (fun e => Or.inl e.symm) (fun e => Or.inr (h x y e).2.2.2)
theorem wfE_bE {n1 n2 : Nat} {E1 E2 : Nat → Nat → Bool} (h1 : wfE n1 E1) (h2 : wfE n2 E2) : wfE (n1 * n2) (bE n1 n2 E1 E2) := by
  intro x y h
  obtain ⟨⟨a, b, c⟩, d, e⟩ := bE_iff.mp h
  exact ⟨a, b, c, bE_iff.mpr ⟨⟨b, a, fun z => c z.symm⟩, lk_sy h1 d, lk_sy h2 e⟩⟩
theorem wfE_eE {n1 n2 : Nat} {E1 E2 : Nat → Nat → Bool} (h1 : wfE n1 E1) (h2 : wfE n2 E2) : wfE (n1 + n2) (eE n1 n2 E1 E2) := by
  intro x y h
  unfold eE at h
  split at h
  · rename_i hx
    rw [Bool.and_eq_true, decide_eq_true_eq] at h
    obtain ⟨a, b, c, d⟩ := h1 x y h.2
    refine ⟨by omega, by omega, c, ?_⟩
    unfold eE
    rw [if_pos b, d]
    simp [hx]
  · rename_i hx
    rw [Bool.and_eq_true, decide_eq_true_eq] at h
    obtain ⟨a, b, c, d⟩ := h2 _ _ h.2
    refine ⟨by omega, by omega, by omega, ?_⟩
    unfold eE
    rw [if_neg (by omega), d]
    simp
    omega
theorem wfE_se {g : Nat → Int32} {n : Nat} : wfE n (se g n 0) := by
  intro x y h
  unfold se at h ⊢
  rw [decide_eq_true_eq] at h
  obtain ⟨a, b, c⟩ := h
  have hxy : x < n ∧ y < n := by omega
  refine ⟨hxy.1, hxy.2, a, ?_⟩
  rw [decide_eq_true_eq]
  refine ⟨fun z => a z.symm, fun z => b ?_, Or.inl ⟨hxy.2, hxy.1⟩⟩
  rw [← z]
  exact b_ext (fun i _ => by rw [b_and, b_and, Bool.and_comm])
theorem rok_ru {r : Nat → Nat → Int32} (h : rok r) {x y : Nat} {v : Int32} (h1 : -30 ≤ v) (h2 : v ≤ 30) : rok (ru r x y v) := by
  intro a ha i hi
  unfold ru
  by_cases c : a = x ∧ i = y
  · rw [if_pos c]
    exact ⟨Int32.le_iff_toInt_le.mp h1, Int32.le_iff_toInt_le.mp h2⟩
  · rw [if_neg c]; exact h a ha i hi
theorem sbit_hi {v : Nat} (h1 : 97 ≤ v) (h2 : v ≤ 120) (i : Nat) (hi : 24 ≤ i) : bt (sbit v) i = false := by
  by_cases h : i < 32
  · unfold sbit
    rw [b_bit (by omega) h]
    simp
    omega
  · exact b_big (by omega)
theorem prs_hi (by_ : Nat → Nat) (n : Nat) : ∀ (r k : Nat) (set : Int32) (rd L : List Int32), (∀ i, 24 ≤ i → bt set i = false) → (∀ x ∈ rd, ∀ i, 24 ≤ i → bt x i = false) → prs by_ n r k set rd = .inr L → ∀ x ∈ L, ∀ i, 24 ≤ i → bt x i = false := by
  intro r
  induction r with
  | zero =>
    intro k set rd L hs hrd h
    unfold prs at h
    split at h
    · cases h
    · cases h
      intro x hx
      rcases List.mem_append.mp hx with z | z
      · exact hrd x z
      · rw [List.mem_singleton.mp z]; exact hs
  | succ r ih =>
    intro k set rd L hs hrd h
    unfold prs at h
    split at h
    · exact ih _ _ _ _ hs hrd h
    · split at h
      · split at h
        · cases h
        · split at h
          · cases h
          · refine ih _ _ _ _ (fun i _ => b_0 i) (fun x hx => ?_) h
            rcases List.mem_append.mp hx with z | z
            · exact hrd x z
            · rw [List.mem_singleton.mp z]; exact hs
      · split at h
        · split at h
          · cases h
          · rename_i hax _
            refine ih _ _ _ _ (fun i hi => ?_) hrd h
            rw [b_or, hs i hi, sbit_hi hax.1 hax.2 i hi]
            rfl
        · cases h
theorem tby_by {c m : Int32} (h : tby c m) : c.toBitVec.toNat < 256 ∧ c = nI c.toBitVec.toNat ∧ m = jv_b (nI c.toBitVec.toNat) := by
  obtain ⟨h1, h2⟩ := h
  have h3 : c = nI (c.toBitVec.toNat % 2 ^ 8) := h1.symm.trans (pk_and c 8 (by decide))
  have h4 : c.toBitVec.toNat = c.toBitVec.toNat % 2 ^ 8 := by
    have := congrArg (fun x : Int32 => x.toBitVec.toNat) h3
    rw [pk_tn (by omega)] at this
    exact this
  have h5 : c = nI c.toBitVec.toNat := h3.trans (by rw [← h4])
  refine ⟨by omega, h5, ?_⟩
  rw [h2, ← h5]

