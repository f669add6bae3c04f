/-! ===== the start: the law's method, the relation behind both constructors ===== -/
def zz_yL : zz_Y := (x, code, 4, ret, 600)
def zz_M0 (L : Nat) : zz_M := (0, fun c => if c = 0 then (1, L, fun _ => none) else (9, 0, fun _ => none))
def zz_I0 (xs : Nat → Int32) : zz_I := fun c => if c = 0 then xs else fun _ => 0
def zz_J0 : zz_J := fun _ _ => 0
def zz_QL : zz_Q := fun v _ _ _ => v = some (.int 1)
theorem rel_start {I I4 : zz_I} (hV : IV I zo_K9) (hL : IL I 8) (hI : FR I 258) (f4 : ∀ c, c ≠ 259 → c ≠ 260 → I4 c = I c) (hV4 : IV I4 [(259, 30, (-1)), (259, 29, (-1)), (259, 21, 0), (259, 18, 0), (259, 17, (-1)), (259, 16, (-1)), (259, 15, (-1)), (259, 9, (-1)), (259, 8, 0), (259, 7, 0)]) (h258 : ∀ l, l < 8 → I4 260 l = 1) : REL I4 := by
  have v : ∀ c j w, (c, j, w) ∈ zo_K9 → c ≠ 259 → c ≠ 260 → I4 c j = w := fun c j w h h1 h2 => by
    rw [f4 c h1 h2]
    exact hV (c, j, w) h
  have z : ∀ c, 260 < c → I4 c = fun _ => 0 := fun c hc => by
    rw [f4 c (by omega) (by omega)]
    exact hI c (by omega)
  have m30 : I4 259 30 = -1 := hV4 (259, 30, (-1)) (by decide)
  have m29 : I4 259 29 = -1 := hV4 (259, 29, (-1)) (by decide)
  have m21 : I4 259 21 = 0 := hV4 (259, 21, 0) (by decide)
  have m18 : I4 259 18 = 0 := hV4 (259, 18, 0) (by decide)
  have m17 : I4 259 17 = -1 := hV4 (259, 17, (-1)) (by decide)
  have m16 : I4 259 16 = -1 := hV4 (259, 16, (-1)) (by decide)
  have m15 : I4 259 15 = -1 := hV4 (259, 15, (-1)) (by decide)
  have m9 : I4 259 9 = -1 := hV4 (259, 9, (-1)) (by decide)
  have m8 : I4 259 8 = 0 := hV4 (259, 8, 0) (by decide)
  have m7 : I4 259 7 = 0 := hV4 (259, 7, 0) (by decide)
  have c13 : I4 1 13 = -1 := v 1 13 (-1) (by decide) (by decide) (by decide)
  have c12 : I4 1 12 = -1 := v 1 12 (-1) (by decide) (by decide) (by decide)
  have c11 : I4 1 11 = 0 := v 1 11 0 (by decide) (by decide) (by decide)
  have k4 : I4 24 4 = 0 := v 24 4 0 (by decide) (by decide) (by decide)
  have k3 : I4 24 3 = -1 := v 24 3 (-1) (by decide) (by decide) (by decide)
  have k2 : I4 24 2 = -1 := v 24 2 (-1) (by decide) (by decide) (by decide)
  have k1 : I4 24 1 = 0 := v 24 1 0 (by decide) (by decide) (by decide)
  have t3 : I4 4 3 = -1 := v 4 3 (-1) (by decide) (by decide) (by decide)
  have t2 : I4 4 2 = 0 := v 4 2 0 (by decide) (by decide) (by decide)
  have t1 : I4 2 1 = 0 := v 2 1 0 (by decide) (by decide) (by decide)
  refine ⟨⟨fun _ => 1, fun _ => 0, fun _ => 0, fun _ _ _ => false, fun _ _ => 0, fun _ _ _ => 0, fun j hj => ⟨⟨Nat.le_refl 1, show 1 ≤ 24 by decide, wfE0 1, rok0, fun a _ i _ => b_0 i⟩, ?_, ?_⟩⟩, RTp0 t1 m7, ⟨by rw [m8, t2], by rw [m9, t3]⟩, ⟨0, 0, fun _ => 0, by decide, by decide, k1, fun i hi => absurd hi (Nat.not_lt_zero i), by rw [m16, k2], by rw [m17, k3], by rw [m18, k4], Or.inl ⟨rfl, m15, k3⟩⟩, ⟨0, by decide, c11, m21, fun i hi => absurd hi (Nat.not_lt_zero i)⟩, by show I4 259 29 = I4 1 12; rw [m29, c12], by show I4 259 30 = I4 1 13; rw [m30, c13]⟩
  · obtain ⟨y1, y2, y3, y4⟩ := hL j hj
    have hLN : LN j = 27 + 29 * j := rfl
    have w : ∀ c, LN j < c → c < LN j + 29 → I4 c = fun _ => 0 := fun c h1 h2 => by
      rw [f4 c (by omega) (by omega)]
      exact y4 c h1 h2
    have w0 : I4 (LN j) = I (LN j) := f4 _ (by omega) (by omega)
    refine ⟨by rw [w0]; exact y1, by rw [w0]; exact y2, by rw [w0]; exact y3, fun a _ b _ => ?_, fun a _ => ?_, fun a ha i _ => ?_⟩
    · rw [w _ (by omega) (by omega)]; exact b_0 b
    · rw [w _ (by omega) (by omega)]
    · rw [w _ (by omega) (by omega)]
  · refine ⟨by rw [z 261 (by decide)], h258 j hj, by rw [z 265 (by decide)], fun a _ b _ => ?_, fun a _ => ?_, fun a _ i _ => ?_⟩
    · rw [z 262 (by decide)]; exact b_0 b
    · rw [z 263 (by decide)]
    · rw [z 264 (by decide)]
