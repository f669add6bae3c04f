/-! ===== the judgement: from here the machine comes to an end with Q ===== -/
/-- a cell that the worlds hold: its kind, its class or length -/
def zz_is (M : zz_M) (a t n : Nat) : Prop := 0 < a ∧ a ≤ M.1 ∧ (M.2 a).1 = t ∧ (M.2 a).2.1 = n
def zz_R (r : Option FieldType) (ins : Instr) (v : Option Value) : Prop :=
  (ins = .ireturn ∧ ∃ (x : Int32) (ty : FieldType), v = some (.int x) ∧ r = some ty ∧ narrow ty (.int x) = .int x) ∨ (ins = .lreturn ∧ ∃ x : Int64, v = some (.long x) ∧ r = some .long) ∨
  (ins = .areturn ∧ ∃ n : String, r = some (.object n) ∧ (v = some .null ∨ ∃ a : Nat, v = some (.ref a))) ∨ (ins = .return_ ∧ v = none ∧ r = none)
def zz_C (y : zz_Y) (d : Nat) (p : Program) (R : Room) (t0 : State) (m : MethodId) (args : Array Value) (meth : Method) (c : Code) (base : Nat) (D : va_G) (cT : Nat → ClassId) : Prop :=
  p.tables.exec = Jvm.exec ∧ c.code = y.2.1 ∧ c.maxLocals = y.2.2.1 ∧ t0.vm.findClass y.1.cls = some m.cls ∧ (∀ w ∈ zz_tbl, w.before args t0 = true) ∧ zz_K D cT t0 ∧ base ≤ t0.heap.size ∧ d ≤ R.frames ∧ 100 * d ≤ R.locals ∧ y.2.2.2.2 ≤ R.cells ∧ 1200 * y.2.2.2.2 ≤ R.slots ∧ (y.1.name = "<init>" → meth.name = "<init>")
def zz_Z (y : zz_Y) (Q : zz_Q) (p : Program) (l : Launch) (e : Env) (R : Room) (t0 : State) (m : MethodId) (args : Array Value) (below : List Frame) (meth : Method) (c : Code) (Z : State → Prop) (base b : Nat) (D : va_G) (cT : Nat → ClassId) : Prop :=
  ∀ (k pc : Nat) (H : Heap) (locs : List Loc) (arr : Array Slot) (ins : Instr) (v : Option Value) (M : zz_M) (I : zz_I) (J : zz_J), decode y.2.1 pc = .ok (ins, 1) → zz_R y.2.2.2.1 ins v → k ≤ y.2.2.2.2 → zz_W base b D cT M I J H → zz_X base b M I t0 H → va_S (fun q => base ≤ q) t0.heap H locs → Q v M I J →
    W p l e R t0 m args below meth c H locs k (1200 * k) Z (F0 m pc arr ((v.map (zz_tr base b)).toList))
def zz_H (y : zz_Y) (d k : Nat) (ls : List (Option Value)) (M : zz_M) (I : zz_I) (J : zz_J) (Q : zz_Q) (p : Program) (l : Launch) (e : Env) (R : Room) (t0 : State) (m : MethodId) (args : Array Value) (below : List Frame) (meth : Method) (c : Code) (Z : State → Prop) (base b : Nat) (D : va_G) (cT : Nat → ClassId) (H : Heap) (locs : List Loc) (arr : Array Slot) : Prop :=
  zz_C y d p R t0 m args meth c base D cT ∧ zz_Z y Q p l e R t0 m args below meth c Z base b D cT ∧ k ≤ y.2.2.2.2 ∧ zz_L base b arr y.2.2.1 ls ∧ zz_W base b D cT M I J H ∧ zz_X base b M I t0 H ∧ va_S (fun q => base ≤ q) t0.heap H locs
/-- from pc, with these locals, this stack, these cells, method y comes to its end, and Q holds of its answer and of the cells then -/
def zz_G (y : zz_Y) (d k pc : Nat) (ls : List (Option Value)) (st : List Value) (M : zz_M) (I : zz_I) (J : zz_J) (Q : zz_Q) : Prop :=
  ∀ (p : Program) (l : Launch) (e : Env) (R : Room) (t0 : State) (m : MethodId) (args : Array Value) (below : List Frame) (meth : Method) (c : Code) (Z : State → Prop) (base b : Nat) (D : va_G) (cT : Nat → ClassId) (H : Heap) (locs : List Loc) (arr : Array Slot),
    zz_H y d k ls M I J Q p l e R t0 m args below meth c Z base b D cT H locs arr → W p l e R t0 m args below meth c H locs k (1200 * k) Z (F0 m pc arr (st.map (zz_tr base b)))
def zz_rm (y : zz_Y) (d : Nat) : Room := { frames := d, cells := y.2.2.2.2, slots := 1200 * y.2.2.2.2, locals := 100 * d }
def zz_ws (y : zz_Y) : List Cond := Cond.code y.1 y.2.1 y.2.2.1 y.2.2.2.1 :: zz_tbl
def zz_Pc (base b : Nat) (D : va_G) (cT : Nat → ClassId) (As : List Value) (M : zz_M) (I : zz_I) (J : zz_J) : Array Value → State → Prop := fun v U => v = (As.map (zz_tr base b)).toArray ∧ zz_W base b D cT M I J U.heap ∧ zz_X base b M I U U.heap ∧ zz_K D cT U
def zz_Qc (base b : Nat) (D : va_G) (cT : Nat → ClassId) (Q : zz_Q) : Array Value → State → Outcome → State → Prop := fun _ st o t => (∃ (v : Option Value) (M : zz_M) (I : zz_I) (J : zz_J), o = .returned (v.map (zz_tr base b)) ∧ Q v M I J ∧ zz_W base b D cT M I J t.heap ∧ zz_X base b M I t t.heap) ∧ va_F (fun q => base ≤ q) st t
/-- the method y, called with As at these cells, returns, and Q holds of its answer and of the cells then -/
def zz_D (y : zz_Y) (d : Nat) (As : List Value) (M : zz_M) (I : zz_I) (J : zz_J) (Q : zz_Q) : Prop :=
  ∀ (l : Launch) (base b : Nat) (D : va_G) (cT : Nat → ClassId), Met l y.1 (zz_ws y) (zz_rm y d) (zz_Pc base b D cT As M I J) (zz_Qc base b D cT Q) y.2.2.2.2 (1200 * y.2.2.2.2) (fun q => base ≤ q)
theorem zz_X.moved {base b : Nat} {M : zz_M} {I : zz_I} {u U : State} {H : Heap} (hvm : u.vm.Alike U.vm) (h : zz_X base b M I u H) : zz_X base b M I U H := ⟨h.1, h.2.1, h.2.2.moved hvm⟩
theorem zz_D_of {y : zz_Y} {d : Nat} {As : List Value} {M : zz_M} {I : zz_I} {J : zz_J} {Q : zz_Q} (hy : plainName y.1.cls = true) (hf : (zz_fl As).length ≤ y.2.2.1) (h : zz_G y d 0 0 (zz_ent y.2.2.1 As) [] M I J Q) : zz_D y d As M I J Q := by
  intro l base b D cT
  refine Met.ofW (cc := y.2.1) (maxL := y.2.2.1) (ret := y.2.2.2.1) hy rfl ?_
  intro p e s m args below meth c s₁ B hml hv
  obtain ⟨rfl, hW, hX, hK⟩ := hv
  have hts := atoms_spec (ws := zz_ws y) B.pre
  have hown : s.vm.findClass y.1.cls = some m.cls := findClass_of_methodNamed B.named
  have hin : meth.name = y.1.name := (name_of_methodNamed B.named B.method).1
  have hr := B.returns
  have hlocks := B.notSynchronized
  rw [lg_entry_eq]
  refine h p l e (zz_rm y d) s m _ below meth c _ base b D cT s.heap [] _ ⟨⟨B.exec, B.bytes, hml, hown, fun w hw => hts w (List.mem_cons_of_mem _ hw), hK, by rw [hW.1]; omega, Nat.le_refl _, Nat.le_refl _, Nat.le_refl _, Nat.le_refl _, fun h => hin.trans h⟩, ?_, Nat.zero_le _, zz_L.entry hf, hW, hX, va_S.rf⟩
  intro k pc H locs arr ins v M' I' J' hd hR hk hW' hX' hS hQ
  have hq : ∀ (o : Option Value), o = v.map (zz_tr base b) → ∀ t : State, t.heap = H → s.WarmedH t.vm → zz_Qc base b D cT Q (As.map (zz_tr base b)).toArray s (.returned o) t := by
    intro o ho t ht hw
    subst ho
    refine ⟨⟨v, M', I', J', rfl, hQ, by rw [ht]; exact hW', ?_⟩, hS.F ht⟩
    rw [ht]
    exact hX'.moved hw.alike
  refine W.widen (k := y.2.2.2.2) (n := 1200 * y.2.2.2.2) hk (Nat.mul_le_mul_left _ hk) ?_
  rcases hR with ⟨rfl, x, ty, rfl, h1, h2⟩ | ⟨rfl, x, rfl, h1⟩ | ⟨rfl, n, h1, h2⟩ | ⟨rfl, rfl, h1⟩
  · exact W.zret (ty := ty) B.exec B.bytes (hr.trans h1) h2 (hq _ rfl) hS.2.2 hd hlocks
  · exact W.lret B.exec B.bytes (hr.trans h1) (hq _ rfl) hS.2.2 hd hlocks
  · rcases h2 with rfl | ⟨a, rfl⟩
    · exact W.aret B.exec B.bytes (hr.trans h1) (Or.inl ⟨n, rfl⟩) (Or.inl rfl) (hq _ rfl) hS.2.2 hd hlocks
    · exact W.aret B.exec B.bytes (hr.trans h1) (Or.inl ⟨n, rfl⟩) (Or.inr ⟨_, rfl⟩) (hq _ rfl) hS.2.2 hd hlocks
  · exact W.vret B.exec B.bytes (hr.trans h1) (hq _ rfl) hS.2.2 hd hlocks
theorem zz_Pc.blind {base b : Nat} {D : va_G} {cT : Nat → ClassId} {As : List Value} {M : zz_M} {I : zz_I} {J : zz_J} : FrameBlind (zz_Pc base b D cT As M I J) := by
  intro a U g mk h
  exact ⟨h.1, h.2.1, zz_X.moved (u := U) (U := U.calling g mk a) (Vm.Alike.refl U.vm) h.2.2.1, h.2.2.2.called⟩
theorem zz_Pc.at {base b : Nat} {D : va_G} {cT : Nat → ClassId} {As : List Value} {M : zz_M} {I : zz_I} {J : zz_J} {t0 : State} {H : Heap} (hW : zz_W base b D cT M I J H) (hX : zz_X base b M I t0 H) (hK : zz_K D cT t0) : ∀ U : State, U.heap = H → t0.WarmedH U.vm → zz_Pc base b D cT As M I J (As.map (zz_tr base b)).toArray U := by
  intro U hU hw
  refine ⟨rfl, by rw [hU]; exact hW, ?_, hK.moved hw⟩
  rw [hU]
  exact hX.moved hw.alike
/-- behind a call -/
theorem zz_back {y : zz_Y} {d k mc pc : Nat} {ls : List (Option Value)} {st st0 : List Value} {Q Q' : zz_Q} {p : Program} {l : Launch} {e : Env} {R : Room} {t0 : State} {m : MethodId} {args : Array Value} {below : List Frame} {meth : Method} {c : Code} {Z : State → Prop} {base b : Nat} {D : va_G} {cT : Nat → ClassId} {H : Heap} {locs : List Loc} {arr : Array Slot} {av : Array Value}
    (hC : zz_C y d p R t0 m args meth c base D cT) (hZ : zz_Z y Q p l e R t0 m args below meth c Z base b D cT) (hk : k + mc ≤ y.2.2.2.2) (hL : zz_L base b arr y.2.2.1 ls) (hS : va_S (fun q => base ≤ q) t0.heap H locs)
    (hr : va_Run p l e R t0 m args below meth c H locs k (1200 * k) mc (1200 * mc) (F0 m pc arr st0) (st.map (zz_tr base b)) (zz_Qc base b D cT Q' av) (fun q => base ≤ q))
    (kk : ∀ (v : Option Value) (M' : zz_M) (I' : zz_I) (J' : zz_J), Q' v M' I' J' → zz_G y d (k + mc) (pc + 3) ls (v.toList ++ st) M' I' J' Q) : W p l e R t0 m args below meth c H locs k (1200 * k) Z (F0 m pc arr st0) := by
  intro T hT X
  obtain ⟨v, st₀, t, T', L, h0, X', hLo, e1, e2, ⟨⟨w, M', I', J', hv, hq, hW', hX'⟩, hz, hkk⟩, stp⟩ := hr T hT X
  cases hv
  rw [h0] at hz hkk
  have hS' : va_S (fun q => base ≤ q) t0.heap T'.heap (locs ++ L) := by
    refine ⟨Nat.le_trans hS.1 (by rw [e1]; exact hz), fun q h1 h2 => ?_, fun q hq => ?_⟩
    · rw [e1, hkk q (Nat.lt_of_lt_of_le h1 hS.1) h2]
      exact hS.2.1 q h1 h2
    · rcases List.mem_append.mp hq with h | h
      · exact hS.2.2 q h
      · exact hLo q h
  rw [← Nat.mul_add] at X'
  obtain ⟨t2, a1, b1⟩ := kk w M' I' J' hq p l e R t0 m args below meth c Z base b D cT T'.heap (locs ++ L) arr ⟨hC, hZ, hk, hL, by rw [e1]; exact hW', by rw [e1]; exact hX'.moved (by rw [← e2]; exact X'.warmed.alike.symm), hS'⟩ T' rfl X'
  refine ⟨t2, stp t2 ?_, b1⟩
  have hh : (w.toList ++ st).map (zz_tr base b) = (w.map (zz_tr base b)).toList ++ st.map (zz_tr base b) := by cases w <;> simp
  rw [hh] at a1
  exact a1
