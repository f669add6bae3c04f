/-! ===== making: the shapes as they grow ===== -/
def zo_k (c : Nat) : Nat × Nat := if 27 ≤ c ∧ c < 259 then (match (c - 27) % 29 with | 0 => (0, 3) | 1 => (1, 24) | 2 => (1, 24) | 3 => (5, 25) | _ => (1, 6)) else ((zo_sh.find? (fun q => q.1 == c)).map (fun q => q.2)).getD (9, 0)
def zo_r (c f : Nat) : Option Nat := if 27 ≤ c ∧ c < 259 then (match (c - 27) % 29 with | 0 => if f = 3 then some (c + 1) else if f = 4 then some (c + 2) else if f = 5 then some (c + 3) else none | 3 => if f < 25 then some (c + 1 + f) else none | _ => none) else if c = 6 then (if f < 8 then some (LN f) else none) else (zo_rf.find? (fun q => q.1 == c && q.2.1 == f)).map (fun q => q.2.2)
/-- N cells are there, of their shapes; the references D are set, and those of the lines below l; the script has L ints -/
def AG (L : Nat) (M : zz_M) (N : Nat) (D : List (Nat × Nat)) (l : Nat) : Prop := M.1 = N ∧ (∀ c, 0 < c → c ≤ N → ((M.2 c).1, (M.2 c).2.1) = zo_k c) ∧ (∀ q ∈ D, q.1 ≤ N ∧ (M.2 q.1).2.2 q.2 = zo_r q.1 q.2) ∧ (∀ c f, 26 < c → c < LN l → zo_r c f ≠ none → (M.2 c).2.2 f = zo_r c f) ∧ (∀ l', l' < l → (M.2 6).2.2 l' = some (LN l')) ∧ (M.2 0).2.1 = L ∧ (l = 0 ∨ LN l ≤ N + 1)
/-- what isn't made yet is 0 -/
def FR (I : zz_I) (N : Nat) : Prop := ∀ c, N < c → I c = fun _ => 0
def FJ (J : zz_J) (N : Nat) : Prop := ∀ c, N < c → J c = fun _ => 0
theorem FR.ui {I : zz_I} {N a f : Nat} {v : Int32} (h : FR I N) (ha : a ≤ N) : FR (zz_ui I a f v) N := fun c hc => by rw [zz_ui_ne _ _ _ (by omega)]; exact h c hc
theorem FR.up {I : zz_I} {N N' : Nat} (h : FR I N) (hN : N ≤ N') : FR I N' := fun c hc => h c (by omega)
theorem FJ.uj {J : zz_J} {N a f : Nat} {v : Int64} (h : FJ J N) (ha : a ≤ N) : FJ (zz_uj J a f v) N := fun c hc => by rw [zz_uj_ne _ _ _ (by omega)]; exact h c hc
theorem FJ.up {J : zz_J} {N N' : Nat} (h : FJ J N) (hN : N ≤ N') : FJ J N' := fun c hc => h c (by omega)
section Grow
variable {L : Nat} {M : zz_M} {N l : Nat} {D : List (Nat × Nat)} {I : zz_I} {J : zz_J}
theorem AG.is {a t n : Nat} (h : AG L M N D l) (h0 : 0 < a) (ha : a ≤ N) (hk : zo_k a = (t, n)) : zz_is M a t n := by
  have := h.2.1 a h0 ha
  rw [hk] at this
  exact ⟨h0, by rw [h.1]; exact ha, congrArg Prod.fst this, congrArg Prod.snd this⟩
theorem AG.fr (h : AG L M N D l) (hI : FR I N) : ∀ j, I (M.1 + 1) j = 0 := fun j => by rw [h.1, hI _ (by omega)]
theorem AG.fj (h : AG L M N D l) (hJ : FJ J N) : ∀ j, J (M.1 + 1) j = 0 := fun j => by rw [h.1, hJ _ (by omega)]
theorem AG.pu {t n : Nat} (h : AG L M N D l) (hk : zo_k (N + 1) = (t, n)) (h6 : l = 0 ∨ 6 ≤ N) : AG L (zz_pu M (t, n, fun _ => none)) (N + 1) D l := by
  have hne : ∀ c, c ≤ N → (zz_pu M (t, n, fun _ => none)).2 c = M.2 c := fun c hc => by
    show (if c = M.1 + 1 then _ else _) = _
    rw [if_neg (by rw [h.1]; omega)]
  refine ⟨by show M.1 + 1 = N + 1; rw [h.1], fun c h0 hc => ?_, fun q hq => ?_, fun c f h1 h2 h3 => ?_, fun l' hl' => ?_, ?_, ?_⟩
  · by_cases e : c = N + 1
    · rw [e, hk]
      have : (zz_pu M (t, n, fun _ => none)).2 (N + 1) = (t, n, fun _ => none) := by
        show (if N + 1 = M.1 + 1 then _ else _) = _
        rw [if_pos (by rw [h.1])]
      rw [this]
    · rw [hne c (by omega)]
      exact h.2.1 c h0 (by omega)
  · obtain ⟨q1, q2⟩ := h.2.2.1 q hq
    exact ⟨by omega, by rw [hne _ q1]; exact q2⟩
  · have hl : c ≤ N := by
      rcases h.2.2.2.2.2.2 with z | z
      · rw [z] at h2; unfold LN at h2; omega
      · omega
    rw [hne c hl]
    exact h.2.2.2.1 c f h1 h2 h3
  · rw [hne 6 (by omega)]
    exact h.2.2.2.2.1 l' hl'
  · rw [hne 0 (by omega)]; exact h.2.2.2.2.2.1
  · exact h.2.2.2.2.2.2.imp id (fun z => by omega)
theorem AG.us {a f q : Nat} (h : AG L M N D l) (h0 : 0 < a) (ha : a ≤ N) (hq : zo_r a f = some q) : AG L (M.1, zz_us M.2 a f (some q)) N ((a, f) :: D) l := by
  have e1 : ∀ c, (zz_us M.2 a f (some q) c).1 = (M.2 c).1 ∧ (zz_us M.2 a f (some q) c).2.1 = (M.2 c).2.1 := fun c => by
    unfold zz_us
    by_cases e : c = a
    · rw [if_pos e, e]; exact ⟨rfl, rfl⟩
    · rw [if_neg e]; exact ⟨rfl, rfl⟩
  have e2 : ∀ c g, (M.2 c).2.2 g = zo_r c g → (zz_us M.2 a f (some q) c).2.2 g = zo_r c g := fun c g hh => by
    unfold zz_us
    by_cases e : c = a
    · subst e
      rw [if_pos rfl]
      by_cases e3 : g = f
      · rw [e3, hq]; exact if_pos rfl
      · exact (if_neg e3).trans hh
    · rw [if_neg e]; exact hh
  refine ⟨h.1, fun c h1 hc => ?_, fun x hx => ?_, fun c g h1 h2 h3 => e2 c g (h.2.2.2.1 c g h1 h2 h3), fun l' hl' => ?_, ?_, h.2.2.2.2.2.2⟩
  · show ((zz_us M.2 a f (some q) c).1, (zz_us M.2 a f (some q) c).2.1) = zo_k c
    rw [(e1 c).1, (e1 c).2]
    exact h.2.1 c h1 hc
  · rcases List.mem_cons.mp hx with z | z
    · rw [z]
      refine ⟨ha, ?_⟩
      show (zz_us M.2 a f (some q) a).2.2 f = zo_r a f
      unfold zz_us
      rw [if_pos rfl, hq]
      exact if_pos rfl
    · obtain ⟨y1, y2⟩ := h.2.2.1 x z
      exact ⟨y1, e2 _ _ y2⟩
  · have := h.2.2.2.2.1 l' hl'
    show (zz_us M.2 a f (some q) 6).2.2 l' = some (LN l')
    unfold zz_us
    by_cases e : 6 = a
    · subst e
      rw [if_pos rfl]
      show (if l' = f then some q else _) = _
      by_cases e3 : l' = f
      · rw [if_pos e3, ← hq, ← e3]
        unfold zo_r
        rw [if_neg (by omega), if_pos rfl]
        by_cases e8 : l' < 8
        · rw [if_pos e8]
        · exfalso
          unfold zo_r at hq
          rw [if_neg (by omega), if_pos rfl, if_neg (by omega)] at hq
          cases hq
      · rw [if_neg e3]; exact this
    · rw [if_neg e]; exact this
  · show (zz_us M.2 a f (some q) 0).2.1 = L
    rw [(e1 0).2]; exact h.2.2.2.2.2.1
/-- the rows of a line -/
theorem AG.pm (h : AG L M N D l) (hl : l < 8) (hN : N = LN l + 2) : AG L (zz_pm M 25 6) (N + 26) ((List.range 25).map (fun a => (N + 1, a)) ++ D) l := by
  have hLN : LN l = 27 + 29 * l := rfl
  have hne : ∀ c, c ≤ N → (zz_pm M 25 6).2 c = M.2 c := fun c hc => by
    show (if c = M.1 + 1 then _ else if M.1 + 2 ≤ c ∧ c < M.1 + 2 + 25 then _ else M.2 c) = _
    rw [if_neg (by rw [h.1]; omega), if_neg (by rw [h.1]; omega)]
  have h1 : (zz_pm M 25 6).2 (N + 1) = (5, 25, fun i => if i < 25 then some (N + 2 + i) else none) := by
    show (if N + 1 = M.1 + 1 then _ else _) = _
    rw [if_pos (by rw [h.1]), h.1]
  have h2 : ∀ a, a < 25 → (zz_pm M 25 6).2 (N + 2 + a) = (1, 6, fun _ => none) := fun a ha => by
    show (if N + 2 + a = M.1 + 1 then _ else if M.1 + 2 ≤ N + 2 + a ∧ N + 2 + a < M.1 + 2 + 25 then _ else M.2 (N + 2 + a)) = _
    rw [if_neg (by rw [h.1]; omega), if_pos (by rw [h.1]; omega)]
  refine ⟨by show M.1 + 1 + 25 = N + 26; rw [h.1], fun c h0 hc => ?_, fun q hq => ?_, fun c f h1' h2' h3 => ?_, fun l' hl' => ?_, ?_, ?_⟩
  · by_cases c1 : c ≤ N
    · rw [hne c c1]; exact h.2.1 c h0 c1
    · by_cases c2 : c = N + 1
      · rw [c2, h1]
        unfold zo_k
        rw [if_pos (by omega), show (N + 1 - 27) % 29 = 3 by omega]
        rfl
      · have c3 : c = N + 2 + (c - (N + 2)) := by omega
        rw [c3, h2 _ (by omega)]
        unfold zo_k
        rw [if_pos (by omega)]
        have : ∃ r, (N + 2 + (c - (N + 2)) - 27) % 29 = r + 4 := ⟨(N + 2 + (c - (N + 2)) - 27) % 29 - 4, by omega⟩
        obtain ⟨r, hr⟩ := this
        rw [hr]
        rfl
  · rcases List.mem_append.mp hq with z | z
    · obtain ⟨a, ha, rfl⟩ := List.mem_map.mp z
      have ha := List.mem_range.mp ha
      refine ⟨by show N + 1 ≤ N + 26; omega, ?_⟩
      show ((zz_pm M 25 6).2 (N + 1)).2.2 a = zo_r (N + 1) a
      rw [h1]
      unfold zo_r
      rw [if_pos (by omega), show (N + 1 - 27) % 29 = 3 by omega]
      show (if a < 25 then some (N + 2 + a) else none) = if a < 25 then some (N + 1 + 1 + a) else none
      rw [if_pos ha]
    · obtain ⟨q1, q2⟩ := h.2.2.1 q z
      exact ⟨by omega, by rw [hne _ q1]; exact q2⟩
  · rw [hne c (by omega)]
    exact h.2.2.2.1 c f h1' h2' h3
  · rw [hne 6 (by omega)]; exact h.2.2.2.2.1 l' hl'
  · rw [hne 0 (by omega)]; exact h.2.2.2.2.2.1
  · exact h.2.2.2.2.2.2.imp id (fun z => by omega)
theorem AG.sub {D' : List (Nat × Nat)} (h : AG L M N D l) (hs : ∀ q ∈ D', q ∈ D) : AG L M N D' l := ⟨h.1, h.2.1, fun q hq => h.2.2.1 q (hs q hq), h.2.2.2⟩
/-- a line more -/
theorem AG.line (h : AG L M N D l) (hl : l < 8) (hN : N = LN l + 28) (h3 : (LN l, 3) ∈ D) (h4 : (LN l, 4) ∈ D) (h5 : (LN l, 5) ∈ D) (h6 : (6, l) ∈ D) (hr : ∀ a, a < 25 → (LN l + 3, a) ∈ D) : AG L M N D (l + 1) := by
  have hLN : LN l = 27 + 29 * l := rfl
  have hLN1 : LN (l + 1) = 27 + 29 * (l + 1) := rfl
  refine ⟨h.1, h.2.1, h.2.2.1, fun c f h1' h2' hn => ?_, fun l' hl' => ?_, h.2.2.2.2.2.1, Or.inr (by omega)⟩
  · by_cases c1 : c < LN l
    · exact h.2.2.2.1 c f h1' c1 hn
    · have cr : (c - 27) % 29 = c - LN l := by omega
      have hn0 := hn
      unfold zo_r at hn
      rw [if_pos (by omega), cr] at hn
      by_cases r0 : c = LN l
      · subst r0
        rw [Nat.sub_self] at hn
        by_cases f3 : f = 3
        · rw [f3]; exact (h.2.2.1 _ h3).2
        · by_cases f4 : f = 4
          · rw [f4]; exact (h.2.2.1 _ h4).2
          · by_cases f5 : f = 5
            · rw [f5]; exact (h.2.2.1 _ h5).2
            · simp [f3, f4, f5] at hn
      · by_cases r3 : c = LN l + 3
        · have hf : f < 25 := by
            rw [show c - LN l = 3 by omega] at hn
            exact Nat.lt_of_not_le fun z => hn (if_neg (by omega))
          rw [r3]; exact (h.2.2.1 _ (hr f hf)).2
        · exfalso
          have : ∃ r, c - LN l = 1 ∨ c - LN l = 2 ∨ c - LN l = r + 4 := ⟨c - LN l - 4, by omega⟩
          obtain ⟨r, z | z | z⟩ := this <;> rw [z] at hn <;> exact hn rfl
  · by_cases e : l' = l
    · rw [e]
      have := (h.2.2.1 _ h6).2
      refine this.trans ?_
      show zo_r 6 l = some (LN l)
      unfold zo_r
      rw [if_neg (by omega), if_pos rfl, if_pos hl]
    · exact h.2.2.2.2.1 l' (by omega)
theorem AG.ok (h : AG L M 275 D 8) (hD : ∀ q ∈ zo_rf, (q.1, q.2.1) ∈ D) : OK M := by
  refine ⟨fun q hq => ?_, fun q hq => ?_, fun l hl => ?_⟩
  · have hk : ∀ q ∈ zo_sh, 0 < q.1 ∧ q.1 ≤ 275 ∧ zo_k q.1 = (q.2.1, q.2.2) := by decide +kernel
    obtain ⟨k1, k2, k3⟩ := hk q hq
    exact h.is k1 k2 k3
  · have hk : ∀ q ∈ zo_rf, zo_r q.1 q.2.1 = some q.2.2 := by decide +kernel
    rw [(h.2.2.1 _ (hD q hq)).2]
    exact hk q hq
  · have hLN : LN l = 27 + 29 * l := rfl
    have hk : ∀ l, l < 8 → zo_k (LN l) = (0, 3) ∧ zo_k (LN l + 1) = (1, 24) ∧ zo_k (LN l + 2) = (1, 24) ∧ zo_k (LN l + 3) = (5, 25) ∧ ∀ a, a < 25 → zo_k (LN l + 4 + a) = (1, 6) := by decide +kernel
    have hr : ∀ l, l < 8 → zo_r (LN l) 3 = some (LN l + 1) ∧ zo_r (LN l) 4 = some (LN l + 2) ∧ zo_r (LN l) 5 = some (LN l + 3) ∧ ∀ a, a < 25 → zo_r (LN l + 3) a = some (LN l + 4 + a) := by decide +kernel
    obtain ⟨k1, k2, k3, k4, k5⟩ := hk l hl
    obtain ⟨r1, r2, r3, r4⟩ := hr l hl
    have h8 : LN 8 = 259 := rfl
    have ref : ∀ c f q, 26 < c → c < 259 → zo_r c f = some q → (M.2 c).2.2 f = some q := fun c f q h1 h2 h3 => by
      rw [h.2.2.2.1 c f h1 (by rw [h8]; exact h2) (by rw [h3]; exact fun z => by cases z)]
      exact h3
    exact ⟨h.is (by omega) (by omega) k1, h.2.2.2.2.1 l hl, h.is (by omega) (by omega) k2, ref _ _ _ (by omega) (by omega) r1, h.is (by omega) (by omega) k3, ref _ _ _ (by omega) (by omega) r2, h.is (by omega) (by omega) k4, ref _ _ _ (by omega) (by omega) r3, fun a ha => ⟨ref _ _ _ (by omega) (by omega) (r4 a ha), h.is (by omega) (by omega) (k5 a ha)⟩⟩
end Grow

