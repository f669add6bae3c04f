/-! ===== from the law's entry on ===== -/
/-! THE CLAIM OUT OF ONE WALK OF THE LAW'S BODY. Your part is whole_start (and what it stands on); all else here is the same for every law, but numbers. -/
def R_law : String := "NeverMistakenLaw"
def lw_P (b : Addr) (xs : List Int32) (args : Array Value) (s : State) : Prop := args = #[.ref b] ∧ s.IntsAt b xs ∧ xs.length ≤ 3072 ∧ (Jvm.Cond.and given_1 narrow_1).before args s = true
def lw_Q (_ : Array Value) (s : State) (o : Outcome) (t : State) : Prop := o = .returned (some (.int 1)) ∧ Framed s o t [] 600000 7302250
def lw_Z (below : List Frame) (a : Array Value) (s : State) : State → Prop := fun t => ∃ o, t.status = .running ∧ Ended t below o ∧ lw_Q a s o t
/-- the law's own end, with 1 on the stack, nothing written that was there before, its room as the claim has it -/
theorem lw_ret {p : Program} {l : Launch} {e : Env} {s : State} {m : MethodId} {below : List Frame} {meth : Method} {c : Code} {b : Nat} (hx : p.tables.exec = Jvm.exec) (hb : c.code = code) (hr : meth.sig.returnType = ret) (hlocks : meth.locks = false) {pc : Nat} {H : Heap} {ls : Array Slot} (hdg : decode code pc = .ok (.ireturn, 1)) : W p l e room_1 s m #[Value.ref b] below meth c H [] 600000 7302250 (lw_Z below #[Value.ref b] s) (F0 m pc ls [.int 1]) := by
  intro T hT X
  obtain ⟨fs, hret, hrun, hended, hW, hframe⟩ := X.leave (v := some (.int 1)) (hlocks := hlocks) (fun h => by rw [hr] at h; cases h)
  have hmeth' : T.vm.method? m = some meth := X.method'
  refine ⟨T.setFrames fs, ?_, .returned (some (.int 1)), hrun, hended, rfl, ⟨_, rfl⟩, hW, hframe⟩
  jvm_step X.here [X.here.top, hx, hb, hdg, hmeth', hr, ret, narrow_b1]
  (try refine ⟨rfl, ?_⟩); (try refine ⟨rfl, ?_⟩)
  first | (intro acts; rw [hret _ acts rfl rfl rfl]) | rw [hret _ _ rfl rfl rfl]
  exact Steps.refl _
/-- what holds at the law's entry: the machine, the code, the tables' words (any of lw_tbl by 'hts w (by decide +kernel)'), the script of L ints xs at the cell b, what the Statement gives of the start (any of its parts by flat_of_before) -/
def lw_At (p : Program) (s : State) (m : MethodId) (meth : Method) (c : Code) (b L : Nat) (xs : Nat → Int32) : Prop :=
  p.tables.exec = Jvm.exec ∧ c.code = code ∧ meth.sig.returnType = ret ∧ c.maxLocals = 4 ∧ s.vm.findClass R_law = some m.cls ∧ (∀ w ∈ lw_tbl, w.before #[Value.ref b] s = true) ∧ va_X b L xs s s.heap ∧ b < s.heap.size ∧ meth.locks = false ∧ (Jvm.Cond.and given_1 narrow_1).before #[Value.ref b] s = true
theorem zz_known {s : State} {args : Array Value} (hts : ∀ w ∈ lw_tbl, w.before args s = true) : ∃ (D : va_G) (cT : Nat → ClassId), zz_K D cT s := by
  have htz : ∀ w ∈ zz_tbl, w.before args s = true := fun w h => hts w (zz_tbl_in w h)
  have hk : ∀ (ci : Nat), ∃ (cC : ClassId) (iS : Nat → Nat), ∀ q : vw_C, zz_cl[ci]? = some q → u_Kn s q.1 q.2.1 q.2.2 cC iS := by
    intro ci
    cases hq : zz_cl[ci]? with
    | none => exact ⟨0, fun _ => 0, fun q h => by cases h⟩
    | some q =>
      have hin : Cond.instantiable q.1 q.2.2 ∈ lw_tbl := by
        have : q ∈ zz_cl := List.mem_of_getElem? hq
        have hall : ∀ q ∈ zz_cl, Cond.instantiable q.1 q.2.2 ∈ lw_tbl := by decide +kernel
        exact hall q this
      obtain ⟨cC, iS, h⟩ := u_known (C := q.1) (T := q.2.1) (N := q.2.2) (n := q.2.2) htz (zz_oks ci q hq).2.1 (hts _ hin)
      exact ⟨cC, iS, fun q' h' => by cases h'; exact h⟩
  obtain ⟨c1, k1, m1, f1, g1, d1⟩ := Cond.arrayClass_spec (hts (.arrayClass .int) (by decide +kernel))
  obtain ⟨c2, k2, m2, f2, g2, d2⟩ := Cond.arrayClass_spec (hts (.arrayClass .long) (by decide +kernel))
  obtain ⟨c3, k3, m3, f3, g3, d3⟩ := Cond.arrayClass_spec (hts (.arrayClass .byte) (by decide +kernel))
  have hAO : va_AO "NeverMistaken$Line" s := va_AO.of (hts (.arrayOver (.object "NeverMistaken$Line")) (by decide +kernel))
  have hAOA : zz_AOA s := hts (.arrayOver (.array .int)) (by decide +kernel)
  obtain ⟨m4, c4, k4, o4, -, g4, d4, f4⟩ := Cond.arrayOver_spec hAO
  obtain ⟨m5, c5, k5, -, -, g5, d5, f5⟩ := arrayOverA_spec hAOA
  refine ⟨(fun ci => (hk ci).choose, fun ci => (hk ci).choose_spec.choose), fun t => match t with | 1 => c1 | 2 => c2 | 3 => c3 | 4 => c4 | _ => c5, ⟨fun ci q h => (hk ci).choose_spec.choose_spec q h, ?_⟩, ?_, hAO, hAOA⟩
  · intro j q h
    have arr : ∀ {c : ClassId} {kA : Class} {comp : ClassId} {ty : FieldType}, s.vm.classes[c]? = some kA → kA.kind = .array comp ty → ArrOfT s c ty := fun h1 h2 N z => ⟨(fun k h => by cases h), _, h1, _, h2⟩
    match j, h with
    | 0, h => cases h; exact ⟨arr g1 d1, f1⟩
    | 1, h => cases h; exact ⟨arr g2 d2, f2⟩
    | 2, h => cases h; exact ⟨arr g3 d3, f3⟩
    | 3, h => cases h; exact ⟨arr g4 d4, _, _, g4, d4, o4, f4⟩
    | 4, h => cases h; exact ⟨arr g5 d5, f5⟩
    | n + 5, h => simp [zz_tys] at h
  · intro w hw
    obtain ⟨h1, h2⟩ := List.mem_filter.mp hw
    have := hts w h1
    cases w <;> simp at h2
    exact va_Nw.of rfl this
theorem zz_start {p : Program} {e : Env} {s : State} {m : MethodId} {below : List Frame} {meth : Method} {c : Code} (l : Launch) {b L : Nat} {xs : Nat → Int32} (hG : zz_G zz_yL 800 0 0 (zz_ent 4 [.ref 0]) [] (zz_M0 L) (zz_I0 xs) zz_J0 zz_QL) (C0 : lw_At p s m meth c b L xs) : W p l e room_1 s m #[Value.ref b] below meth c s.heap [] 0 0 (lw_Z below #[Value.ref b] s) (entryFrame m ([Value.ref b] : List Value).toArray 4) := by
  obtain ⟨hx, hb, hr, hml, hown, hts, hX, hbl, hlocks, hgv⟩ := id C0
  obtain ⟨D, cT, hK⟩ := zz_known hts
  rw [lg_entry_eq]
  refine hG p l e room_1 s m _ below meth c _ s.heap.size b D cT s.heap [] _ ⟨⟨hx, hb, hml, hown, fun w hw => hts w (zz_tbl_in w hw), hK, Nat.le_refl _, by decide, by decide, by decide, by decide, fun h => absurd h (by decide)⟩, ?_, Nat.zero_le _, zz_L.entry (base := s.heap.size) (b := b) (vs := [.ref 0]) (by decide), ⟨rfl, fun k hk => absurd hk (Nat.not_lt_zero k)⟩, ⟨hbl, rfl, hX⟩, va_S.rf⟩
  intro k pc H locs arr ins v M I J hd hR hk hW hX' hS hQ
  have hv : v = some (.int 1) := hQ
  subst hv
  refine va_forget (fun q hq => hS.2.2 q hq) ?_
  refine W.widen (k := 600000) (n := 7302250) (by have : k ≤ 600 := hk; omega) (by have : k ≤ 600 := hk; omega) ?_
  rcases hR with ⟨rfl, -⟩ | ⟨-, y, h, -⟩ | ⟨-, n, -, h⟩ | ⟨-, h, -⟩
  · exact lw_ret hx hb hr hlocks hd
  · cases h
  · rcases h with h | ⟨a, h⟩ <;> cases h
  · cases h
