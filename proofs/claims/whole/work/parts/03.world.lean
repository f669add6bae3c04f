/-! ===== THE SMALL MACHINE: cells by number (0: the script; k + 1: the cell at base + k), shapes, ints, longs ===== -/
/-- kind (0: an object, 1: int[], 2: long[], 3: byte[], 4: Line[], 5: int[][]), class or length, references -/
abbrev zz_S : Type := Nat × Nat × (Nat → Option Nat)
/-- how many cells, and their shapes -/
abbrev zz_M : Type := Nat × (Nat → zz_S)
abbrev zz_I : Type := Nat → Nat → Int32
abbrev zz_J : Type := Nat → Nat → Int64
abbrev zz_Q : Type := Option Value → zz_M → zz_I → zz_J → Prop
/-- a method: its name, its code, its locals, its answer's type, the cells that it makes at most -/
abbrev zz_Y : Type := MethodName × ByteArray × Nat × Option FieldType × Nat
def zz_ad (base b : Nat) : Nat → Nat
  | 0 => b
  | k + 1 => base + k
def zz_tr (base b : Nat) : Value → Value
  | .ref a => .ref (zz_ad base b a)
  | v => v
theorem zz_tr_cat (base b : Nat) (v : Value) : (zz_tr base b v).category = v.category := by cases v <;> rfl
def zz_cl : List vw_C := [(RX0, TX0, 5), (RX1, TX1, 5), (RX2, TX2, 9), (RX3, TX3, 6), (RX4, TX4, 3), (RX5, TX5, 4), (RX6, TX6, 3), (RX7, TX7, 2), (RX8, TX8, 4), (RX9, TX9, 14), (RX10, TX10, 31)]
def zz_ty : Nat → Nat → FieldType
  | 0 => tyX0
  | 1 => tyX1
  | 2 => tyX2
  | 3 => tyX3
  | 4 => tyX4
  | 5 => tyX5
  | 6 => tyX6
  | 7 => tyX7
  | 8 => tyX8
  | 9 => tyX9
  | _ => tyX10
def zz_nf : Nat → Nat
  | 0 => 5
  | 1 => 5
  | 2 => 9
  | 3 => 6
  | 4 => 3
  | 5 => 4
  | 6 => 3
  | 7 => 2
  | 8 => 4
  | 9 => 14
  | _ => 31
/-- the words that go along with every call -/
def zz_tbl : List Cond := lw_tbl.filter goodWord
theorem zz_tbl_in : ∀ w ∈ zz_tbl, w ∈ lw_tbl := fun w h => (List.mem_filter.mp h).1
theorem zz_tbl_of {w : Cond} (h : w ∈ lw_tbl) (hg : goodWord w = true) : w ∈ zz_tbl := List.mem_filter.mpr ⟨h, hg⟩
theorem zz_tbl_good : ∀ w ∈ zz_tbl, goodWord w = true := fun w h => (List.mem_filter.mp h).2
/-- what a class's tables say, as the rows want it -/
def zz_ok (ci : Nat) (q : vw_C) : Prop := q.2.2 = zz_nf ci ∧ (∀ w ∈ u_ws q.1 q.2.1 q.2.2, w ∈ zz_tbl) ∧ (∀ k, k < q.2.2 → parseFieldDescriptor (q.2.1 k).2.2.1 = some (zz_ty ci k)) ∧ (∀ a, a < q.2.2 → ∀ b, b < q.2.2 → a ≠ b → (q.2.1 a).2.1 ≠ (q.2.1 b).2.1) ∧ ∀ k, k < q.2.2 → (q.2.1 k).1 = q.1
theorem zz_in0 : ∀ w ∈ u_ws RX0 TX0 5, w ∈ zz_tbl := by decide +kernel
theorem zz_in1 : ∀ w ∈ u_ws RX1 TX1 5, w ∈ zz_tbl := by decide +kernel
theorem zz_in2 : ∀ w ∈ u_ws RX2 TX2 9, w ∈ zz_tbl := by decide +kernel
theorem zz_in3 : ∀ w ∈ u_ws RX3 TX3 6, w ∈ zz_tbl := by decide +kernel
theorem zz_in4 : ∀ w ∈ u_ws RX4 TX4 3, w ∈ zz_tbl := by decide +kernel
theorem zz_in5 : ∀ w ∈ u_ws RX5 TX5 4, w ∈ zz_tbl := by decide +kernel
theorem zz_in6 : ∀ w ∈ u_ws RX6 TX6 3, w ∈ zz_tbl := by decide +kernel
theorem zz_in7 : ∀ w ∈ u_ws RX7 TX7 2, w ∈ zz_tbl := by decide +kernel
theorem zz_in8 : ∀ w ∈ u_ws RX8 TX8 4, w ∈ zz_tbl := by decide +kernel
theorem zz_in9 : ∀ w ∈ u_ws RX9 TX9 14, w ∈ zz_tbl := by decide +kernel
theorem zz_in10 : ∀ w ∈ u_ws RX10 TX10 31, w ∈ zz_tbl := by decide +kernel
theorem zz_oks (ci : Nat) (q : vw_C) (h : zz_cl[ci]? = some q) : zz_ok ci q := by
  match ci, h with
  | 0, h => cases h; exact ⟨rfl, zz_in0, tyX0_ok, nmX0, by decide +kernel⟩
  | 1, h => cases h; exact ⟨rfl, zz_in1, tyX1_ok, nmX1, by decide +kernel⟩
  | 2, h => cases h; exact ⟨rfl, zz_in2, tyX2_ok, nmX2, by decide +kernel⟩
  | 3, h => cases h; exact ⟨rfl, zz_in3, tyX3_ok, nmX3, by decide +kernel⟩
  | 4, h => cases h; exact ⟨rfl, zz_in4, tyX4_ok, nmX4, by decide +kernel⟩
  | 5, h => cases h; exact ⟨rfl, zz_in5, tyX5_ok, nmX5, by decide +kernel⟩
  | 6, h => cases h; exact ⟨rfl, zz_in6, tyX6_ok, nmX6, by decide +kernel⟩
  | 7, h => cases h; exact ⟨rfl, zz_in7, tyX7_ok, nmX7, by decide +kernel⟩
  | 8, h => cases h; exact ⟨rfl, zz_in8, tyX8_ok, nmX8, by decide +kernel⟩
  | 9, h => cases h; exact ⟨rfl, zz_in9, tyX9_ok, nmX9, by decide +kernel⟩
  | 10, h => cases h; exact ⟨rfl, zz_in10, tyX10_ok, nmX10, by decide +kernel⟩
  | n + 11, h => simp [zz_cl] at h
/-- what a field holds -/
def zz_fv (ad : Nat → Nat) (t : FieldType) (i : Int32) (j : Int64) (r : Option Nat) : Value := match t with
  | .int => .int i
  | .long => .long j
  | _ => va_rf (r.map ad)
def zz_aty : Nat → FieldType
  | 1 => .int
  | 2 => .long
  | 3 => .byte
  | 4 => .object "NeverMistaken$Line"
  | _ => .array .int
def zz_tys (cT : Nat → ClassId) : List (ClassId × FieldType) := [(cT 1, .int), (cT 2, .long), (cT 3, .byte), (cT 4, .object "NeverMistaken$Line"), (cT 5, .array .int)]
/-- the cell a as the kit's worlds have it -/
def zz_E (ad : Nat → Nat) (cT : Nat → ClassId) (S : zz_S) (i : Nat → Int32) (j : Nat → Int64) : va_E := match S.1 with
  | 0 => .inr (S.2.1, (List.range (zz_nf S.2.1)).map fun k => zz_fv ad (zz_ty S.2.1 k) (i k) (j k) (S.2.2 k))
  | 1 => .inl (cT 1, S.2.1, .inl i)
  | 2 => .inl (cT 2, S.2.1, .inr (.inl j))
  | 3 => .inl (cT 3, S.2.1, .inl i)
  | 4 => .inl (cT 4, S.2.1, .inr (.inr (.inr (.inr (fun k => (S.2.2 k).map ad)))))
  | _ => .inl (cT 5, S.2.1, .inr (.inr (.inr (.inr (fun k => (S.2.2 k).map ad)))))
def zz_W (base b : Nat) (D : va_G) (cT : Nat → ClassId) (M : zz_M) (I : zz_I) (J : zz_J) (H : Heap) : Prop :=
  H.size = base + M.1 ∧ ∀ k, k < M.1 → va_at D zz_cl (base + k, zz_E (zz_ad base b) cT (M.2 (k + 1)) (I (k + 1)) (J (k + 1))) H
def zz_X (base b : Nat) (M : zz_M) (I : zz_I) (U : State) (H : Heap) : Prop := b < base ∧ (M.2 0).1 = 1 ∧ va_X b (M.2 0).2.1 (I 0) U H
def zz_nest : List Cond := lw_tbl.filter fun w => match w with
  | .methodLinkNest _ _ _ _ => true
  | _ => false
def zz_AOA (U : State) : Prop := (Cond.arrayOver (.array .int)).before #[] U = true
def zz_K (D : va_G) (cT : Nat → ClassId) (U : State) : Prop := va_K D zz_cl (zz_tys cT) U ∧ (∀ w ∈ zz_nest, va_Nw w U) ∧ va_AO "NeverMistaken$Line" U ∧ zz_AOA U
theorem zz_AOA.moved {u U : State} (hvm : u.vm.Alike U.vm) (h : zz_AOA u) : zz_AOA U := by
  obtain ⟨comp, c, k, h1, h2, h3, h4, h5⟩ := arrayOverA_spec h
  obtain ⟨k', hk', he⟩ := hvm.2.2 _ _ h3
  have hi0 := (va_idx_bare U.vm comp).symm
  first | rw [hvm.bare_eq] at hi0 | rw [← hvm.bare_eq] at hi0
  rw [va_idx_bare] at hi0
  have hi := hi0.trans h2
  have hkind : k'.kind = .array comp (.array .int) := by rw [he]; exact h4
  have f1 : U.vm.findClass (FieldType.array .int).toString = some comp := by rw [hvm.findClass]; exact h1
  have f2 : U.vm.findClass ("[" ++ (FieldType.array .int).toString) = some c := by rw [hvm.findClass]; exact h5
  unfold zz_AOA Cond.before Cond.holds
  simp only [Cond.value]
  rw [f1, Option.bind_some]
  refine (congrArg (fun o : Option Nat => (o.bind (fun c => (U.vm.classes[c]?).map fun (k : Class) => match k.kind with | .array _ ty => decide (ty = FieldType.array .int) && decide (U.vm.findClass ("[" ++ (FieldType.array .int).toString) = some c) | _ => false) == some true)) hi).trans ?_
  simp [hk', hkind, f2]
theorem zz_K.moved {D : va_G} {cT : Nat → ClassId} {u U : State} (hW : u.WarmedH U.vm) (h : zz_K D cT u) : zz_K D cT U := by
  refine ⟨va_K.moved hW.alike h.1, fun w hw => ?_, va_AO.moved hW.alike h.2.2.1, zz_AOA.moved hW.alike h.2.2.2⟩
  have h1 := h.2.1 w hw
  have h2 := (List.mem_filter.mp hw).2
  cases w <;> simp at h2
  exact va_Nw.warmM hW h1
theorem zz_K.called {D : va_G} {cT : Nat → ClassId} {U : State} {a : Array Value} {g : JFrame} {mk : MethodId} (h : zz_K D cT U) : zz_K D cT (U.calling g mk a) := by
  refine ⟨va_K.moved (u := U) (Vm.Alike.refl U.vm) h.1, fun w hw => ?_, va_AO.moved (u := U) (Vm.Alike.refl U.vm) h.2.2.1, zz_AOA.moved (u := U) (Vm.Alike.refl U.vm) h.2.2.2⟩
  have h1 := h.2.1 w hw
  have h2 := (List.mem_filter.mp hw).2
  cases w <;> simp at h2
  exact va_tabs rfl (rfl : U.vm = (U.calling g mk a).vm) h1
/-! ===== locals ===== -/
def zz_L (base b : Nat) (arr : Array Slot) (n : Nat) (ls : List (Option Value)) : Prop := arr.size = n ∧ lv_wf arr ∧ ∀ (i : Nat) (v : Value), ls[i]? = some (some v) → arr[i]? = some (.val (zz_tr base b v))
/-- a long whose second half is overwritten is gone -/
def zz_kill (ls : List (Option Value)) : Nat → List (Option Value)
  | 0 => ls
  | j + 1 => match ls[j]? with
    | some (some (.long _)) => ls.set j none
    | some (some (.double _)) => ls.set j none
    | _ => ls
def zz_s1 (ls : List (Option Value)) (i : Nat) (v : Value) : List (Option Value) := (zz_kill ls i).set i (some v)
def zz_s2 (ls : List (Option Value)) (i : Nat) (v : Value) : List (Option Value) := ((zz_kill ls i).set i (some v)).set (i + 1) none
theorem zz_kill_get {ls : List (Option Value)} {i j : Nat} {w : Value} (h : (zz_kill ls i)[j]? = some (some w)) : ls[j]? = some (some w) ∧ ¬ (j + 1 = i ∧ w.category = 2) := by
  cases i with
  | zero => exact ⟨h, fun q => by omega⟩
  | succ i =>
    unfold zz_kill at h
    by_cases hj : j = i
    · subst hj
      cases hx : ls[j]? with
      | none => simp [hx] at h
      | some o =>
        cases o with
        | none => simp [hx] at h
        | some v =>
          cases v <;> simp [hx] at h <;> first | (subst h; refine ⟨rfl, fun q => ?_⟩; simp [Value.category] at q; done) | (rw [List.getElem?_set_self'] at h; simp [hx] at h; done)
    · have : (zz_kill ls (i + 1))[j]? = ls[j]? := by
        have hs : (ls.set i none)[j]? = ls[j]? := List.getElem?_set_ne (Ne.symm hj)
        cases hx : ls[i]? with
        | none => simp [zz_kill, hx]
        | some o =>
          cases o with
          | none => simp [zz_kill, hx]
          | some v => cases v <;> simp [zz_kill, hx, hs]
      unfold zz_kill at this
      rw [this] at h
      exact ⟨h, fun q => by omega⟩
/-- all that the locals hold, as the kit lists it -/
def zz_al (base b : Nat) (ls : List (Option Value)) : List (Nat × Value) := (List.range ls.length).filterMap fun i => match ls[i]? with
  | some (some v) => some (i, zz_tr base b v)
  | _ => none
theorem zz_al_mem {base b : Nat} {ls : List (Option Value)} {q : Nat × Value} : q ∈ zz_al base b ls ↔ ∃ v, ls[q.1]? = some (some v) ∧ q.2 = zz_tr base b v := by
  unfold zz_al
  rw [List.mem_filterMap]
  constructor
  · rintro ⟨i, -, h⟩
    split at h
    · rename_i v hv
      cases h
      exact ⟨v, hv, rfl⟩
    · cases h
  · rintro ⟨v, h1, h2⟩
    refine ⟨q.1, List.mem_range.mpr (List.getElem?_eq_some_iff.mp h1).1, ?_⟩
    rw [h1]
    simp [← h2]
theorem zz_L.has {base b n : Nat} {arr : Array Slot} {ls : List (Option Value)} (h : zz_L base b arr n ls) : lv_has arr n (zz_al base b ls) := by
  refine ⟨h.1, h.2.1, fun q hq => ?_⟩
  obtain ⟨v, h1, h2⟩ := zz_al_mem.mp hq
  rw [h2]
  exact h.2.2 _ _ h1
theorem zz_L.store1 {base b n i : Nat} {arr : Array Slot} {ls : List (Option Value)} {v : Value} (h : lv_has arr n ((i, zz_tr base b v) :: (zz_al base b ls).filter (fun q => !(q.1 == i) && !(q.1 + 1 == i && q.2.category == 2)))) : zz_L base b arr n (zz_s1 ls i v) := by
  refine ⟨h.1, h.2.1, fun j w hj => ?_⟩
  unfold zz_s1 at hj
  by_cases e : j = i
  · subst e
    rw [List.getElem?_set_self'] at hj
    cases hx : (zz_kill ls j)[j]? with
    | none => simp [hx] at hj
    | some o =>
      simp [hx] at hj
      subst hj
      exact h.2.2 _ List.mem_cons_self
  · rw [List.getElem?_set_ne (Ne.symm e)] at hj
    obtain ⟨h1, h2⟩ := zz_kill_get hj
    refine h.2.2 (j, zz_tr base b w) (List.mem_cons_of_mem _ (List.mem_filter.mpr ⟨zz_al_mem.mpr ⟨w, h1, rfl⟩, ?_⟩))
    simp only [zz_tr_cat, Bool.and_eq_true, Bool.not_eq_true', beq_eq_false_iff_ne, ne_eq, Bool.and_eq_false_iff]
    refine ⟨e, ?_⟩
    by_cases q : j + 1 = i
    · exact Or.inr (fun c => h2 ⟨q, c⟩)
    · exact Or.inl q
theorem zz_L.store2 {base b n i : Nat} {arr : Array Slot} {ls : List (Option Value)} {v : Value} (h : lv_has arr n ((i, zz_tr base b v) :: (zz_al base b ls).filter (fun q => !(q.1 == i) && (!(q.1 == i + 1) && !(q.1 + 1 == i && q.2.category == 2))))) : zz_L base b arr n (zz_s2 ls i v) := by
  refine ⟨h.1, h.2.1, fun j w hj => ?_⟩
  unfold zz_s2 at hj
  by_cases e2 : j = i + 1
  · subst e2
    rw [List.getElem?_set_self'] at hj
    cases hx : ((zz_kill ls i).set i (some v))[i + 1]? with
    | none => simp [hx] at hj
    | some o => simp [hx] at hj
  rw [List.getElem?_set_ne (Ne.symm e2)] at hj
  by_cases e : j = i
  · subst e
    rw [List.getElem?_set_self'] at hj
    cases hx : (zz_kill ls j)[j]? with
    | none => simp [hx] at hj
    | some o =>
      simp [hx] at hj
      subst hj
      exact h.2.2 _ List.mem_cons_self
  · rw [List.getElem?_set_ne (Ne.symm e)] at hj
    obtain ⟨h1, h2⟩ := zz_kill_get hj
    refine h.2.2 (j, zz_tr base b w) (List.mem_cons_of_mem _ (List.mem_filter.mpr ⟨zz_al_mem.mpr ⟨w, h1, rfl⟩, ?_⟩))
    simp only [zz_tr_cat, Bool.and_eq_true, Bool.not_eq_true', beq_eq_false_iff_ne, ne_eq, Bool.and_eq_false_iff]
    refine ⟨e, e2, ?_⟩
    by_cases q : j + 1 = i
    · exact Or.inr (fun c => h2 ⟨q, c⟩)
    · exact Or.inl q
/-- the locals at a method's entry -/
def zz_fl : List Value → List (Option Value)
  | [] => []
  | .long x :: vs => some (.long x) :: none :: zz_fl vs
  | .double x :: vs => some (.double x) :: none :: zz_fl vs
  | v :: vs => some v :: zz_fl vs
def zz_ent (n : Nat) (vs : List Value) : List (Option Value) := zz_fl vs ++ List.replicate (n - (zz_fl vs).length) none
theorem zz_fl_len (vs : List Value) (base b : Nat) : (lg_sl (vs.map (zz_tr base b))).length = (zz_fl vs).length := by
  induction vs with
  | nil => rfl
  | cons v vs ih => cases v <;> simpa [lg_sl, zz_fl, zz_tr, Value.category] using ih
theorem zz_fl_get (base b : Nat) : ∀ (vs : List Value) (o i : Nat) (v : Value), (zz_fl vs)[i]? = some (some v) → (o + i, zz_tr base b v) ∈ lv_args o (vs.map (zz_tr base b)) := by
  intro vs
  induction vs with
  | nil => intro o i v h; simp [zz_fl] at h
  | cons w vs ih =>
    intro o i v h
    have one : ∀ (u : Value), u.category = 1 → zz_fl (u :: vs) = some u :: zz_fl vs → (zz_fl (u :: vs))[i]? = some (some v) → (o + i, zz_tr base b v) ∈ lv_args o ((u :: vs).map (zz_tr base b)) := by
      intro u hu e h
      rw [e] at h
      have hc : (zz_tr base b u).category ≠ 2 := by rw [zz_tr_cat, hu]; decide
      simp only [List.map_cons, lv_args, if_neg hc]
      cases i with
      | zero => simp at h; subst h; exact List.mem_cons_self
      | succ i =>
        simp at h
        have := ih (o + 1) i v h
        rw [show o + (i + 1) = o + 1 + i by omega]
        exact List.mem_cons_of_mem _ this
    have two : ∀ (u : Value), u.category = 2 → zz_fl (u :: vs) = some u :: none :: zz_fl vs → (zz_fl (u :: vs))[i]? = some (some v) → (o + i, zz_tr base b v) ∈ lv_args o ((u :: vs).map (zz_tr base b)) := by
      intro u hu e h
      rw [e] at h
      have hc : (zz_tr base b u).category = 2 := by rw [zz_tr_cat, hu]
      simp only [List.map_cons, lv_args, if_pos hc]
      match i, h with
      | 0, h => simp at h; subst h; exact List.mem_cons_self
      | 1, h => simp at h
      | i + 2, h =>
        simp at h
        have := ih (o + 2) i v h
        rw [show o + (i + 2) = o + 2 + i by omega]
        exact List.mem_cons_of_mem _ this
    cases w with
    | long x => exact two (.long x) rfl rfl h
    | double x => exact two (.double x) rfl rfl h
    | int x => exact one (.int x) rfl rfl h
    | float x => exact one (.float x) rfl rfl h
    | null => exact one .null rfl rfl h
    | ref x => exact one (.ref x) rfl rfl h
    | retAddr x => exact one (.retAddr x) rfl rfl h
theorem zz_L.entry {base b n : Nat} {vs : List Value} (h : (zz_fl vs).length ≤ n) : zz_L base b ((lg_sl (vs.map (zz_tr base b)) ++ List.replicate (n - (lg_sl (vs.map (zz_tr base b))).length) Slot.unset).toArray) n (zz_ent n vs) := by
  have h0 := lv_entry (vs.map (zz_tr base b)) (n := n) (by rw [zz_fl_len]; exact h)
  refine ⟨h0.1, h0.2.1, fun i v hi => ?_⟩
  unfold zz_ent at hi
  by_cases hl : i < (zz_fl vs).length
  · rw [List.getElem?_append_left hl] at hi
    have := zz_fl_get base b vs 0 i v hi
    rw [Nat.zero_add] at this
    exact h0.2.2 _ this
  · rw [List.getElem?_append_right (by omega)] at hi
    have := List.eq_of_mem_replicate (List.mem_of_getElem? hi)
    cases this
