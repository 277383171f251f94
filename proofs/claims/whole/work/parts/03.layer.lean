/-! THE CLEAN MACHINE (my own layer over the kit's W). A heap is three functions (ints and booleans, longs, references), by a cell's number (0 is the first cell that the law makes) and a slot's; which cell is what is fixed ahead (qPl: class number, or 20 + array type, and length). -/
abbrev qH : Type := (Nat → Nat → Int32) × (Nat → Nat → Int64) × (Nat → Nat → Option Nat)
abbrev qMi : Type := MethodName × ByteArray × Nat × Option FieldType
def qpI (h : qH) (a i : Nat) (v : Int32) : qH := (va_up h.1 a (va_up (h.1 a) i v), h.2.1, h.2.2)
def qpL (h : qH) (a i : Nat) (v : Int64) : qH := (h.1, va_up h.2.1 a (va_up (h.2.1 a) i v), h.2.2)
def qpR (h : qH) (a i : Nat) (v : Option Nat) : qH := (h.1, h.2.1, va_up h.2.2 a (va_up (h.2.2 a) i v))
theorem qus {α : Type} {f : Nat → α} {k : Nat} {v : α} : va_up f k v k = v := va_up_self f k v
theorem qun {α : Type} {f : Nat → α} {k j : Nat} {v : α} (h : j ≠ k) : va_up f k v j = f j := by simp [va_up, h]
def qrel (b0 b : Nat) : Value → Value
  | .ref r => .ref (b0 + r)
  | .retAddr _ => .ref b
  | v => v
theorem qrel_cat (b0 b : Nat) (v : Value) : (qrel b0 b v).category = v.category := by cases v <;> rfl
abbrev qdead : Value := .retAddr 1
def qV (b0 : Nat) (ty : FieldType) (i : Int32) (l : Int64) (r : Option Nat) : Value := match ty with
  | .long => .long l
  | .object _ => va_rf (r.map (fun x => b0 + x))
  | .array _ => va_rf (r.map (fun x => b0 + x))
  | _ => .int i
def qCE (b0 : Nat) (dA : Nat → ClassId) (i : Nat → Int32) (l : Nat → Int64) (r : Nat → Option Nat) (q : Nat × Nat) : va_E :=
  if q.1 < 20 then .inr (q.1, (List.range (qN q.1)).map (fun f => qV b0 (qFT q.1 f) (i f) (l f) (r f)))
  else .inl (dA (q.1 - 20), q.2, if q.1 = 21 then .inr (.inl l) else if q.1 < 23 then .inl i else .inr (.inr (.inr (.inr (fun j => (r j).map (fun x => b0 + x))))))
def qE (b0 : Nat) (dA : Nat → ClassId) (h : qH) (k : Nat) : va_E := qCE b0 dA (h.1 k) (h.2.1 k) (h.2.2 k) (qPl k)
def qW (b0 : Nat) (dA : Nat → ClassId) (h : qH) (n : Nat) : va_W := (List.range n).map (fun k => (b0 + k, qE b0 dA h k))
theorem qW_at {b0 : Nat} {dA : Nat → ClassId} {h : qH} {n k : Nat} (hk : k < n) : (qW b0 dA h n)[k]? = some (b0 + k, qE b0 dA h k) := by
  simp [qW, List.getElem?_map, List.getElem?_range hk]
theorem qW_of {b0 : Nat} {dA : Nat → ClassId} {h : qH} {n k : Nat} {q : Nat × va_E} (hq : (qW b0 dA h n)[k]? = some q) : k < n ∧ q = (b0 + k, qE b0 dA h k) := by
  by_cases hk : k < n
  · rw [qW_at hk] at hq
    exact ⟨hk, (Option.some.inj hq).symm⟩
  · have : (qW b0 dA h n).length = n := by simp [qW]
    rw [List.getElem?_eq_none (by omega)] at hq
    cases hq
theorem qW_D {b0 : Nat} {dA : Nat → ClassId} {h : qH} {n : Nat} : va_D (fun q => b0 ≤ q) (qW b0 dA h n) := by
  refine ⟨fun i j p q hi hj hpq => ?_, fun k q hk => ?_⟩
  · obtain ⟨-, rfl⟩ := qW_of hi
    obtain ⟨-, rfl⟩ := qW_of hj
    dsimp only at hpq
    omega
  · obtain ⟨-, rfl⟩ := qW_of hk
    dsimp only
    omega
theorem qW_set {b0 : Nat} {dA : Nat → ClassId} {h h' : qH} {n k : Nat} {x : Nat × va_E} (hx : x = (b0 + k, qE b0 dA h' k)) (ho : ∀ j, j ≠ k → h'.1 j = h.1 j ∧ h'.2.1 j = h.2.1 j ∧ h'.2.2 j = h.2.2 j) : (qW b0 dA h n).set k x = qW b0 dA h' n := by
  subst hx
  apply List.ext_getElem?
  intro j
  by_cases hj : j < n
  · by_cases hjk : j = k
    · subst hjk
      rw [List.getElem?_set_self (by simp [qW]; exact hj), qW_at hj]
    · rw [List.getElem?_set_ne (fun q => hjk q.symm), qW_at hj, qW_at hj]
      obtain ⟨a, b, c⟩ := ho j hjk
      simp only [qE, a, b, c]
  · rw [List.getElem?_eq_none (by simp [qW]; omega), List.getElem?_eq_none (by simp [qW]; omega)]
theorem qpI_o (h : qH) (a i : Nat) (v : Int32) : ∀ j, j ≠ a → (qpI h a i v).1 j = h.1 j ∧ (qpI h a i v).2.1 j = h.2.1 j ∧ (qpI h a i v).2.2 j = h.2.2 j := fun j hj => ⟨qun hj, rfl, rfl⟩
theorem qpL_o (h : qH) (a i : Nat) (v : Int64) : ∀ j, j ≠ a → (qpL h a i v).1 j = h.1 j ∧ (qpL h a i v).2.1 j = h.2.1 j ∧ (qpL h a i v).2.2 j = h.2.2 j := fun j hj => ⟨rfl, qun hj, rfl⟩
theorem qpR_o (h : qH) (a i : Nat) (v : Option Nat) : ∀ j, j ≠ a → (qpR h a i v).1 j = h.1 j ∧ (qpR h a i v).2.1 j = h.2.1 j ∧ (qpR h a i v).2.2 j = h.2.2 j := fun j hj => ⟨rfl, rfl, qun hj⟩
theorem qpI_1 (h : qH) (a i : Nat) (v : Int32) : (qpI h a i v).1 a = va_up (h.1 a) i v := qus
theorem qpL_1 (h : qH) (a i : Nat) (v : Int64) : (qpL h a i v).2.1 a = va_up (h.2.1 a) i v := qus
theorem qpR_1 (h : qH) (a i : Nat) (v : Option Nat) : (qpR h a i v).2.2 a = va_up (h.2.2 a) i v := qus
/-- the cell's picture, by its plan -/
theorem qE_obj {b0 : Nat} {dA : Nat → ClassId} {h : qH} {k ci x : Nat} (hp : qPl k = (ci, x)) (hc : ci < 20) : qE b0 dA h k = .inr (ci, (List.range (qN ci)).map (fun f => qV b0 (qFT ci f) (h.1 k f) (h.2.1 k f) (h.2.2 k f))) := by
  simp [qE, qCE, hp, hc]
theorem qE_int {b0 : Nat} {dA : Nat → ClassId} {h : qH} {k n : Nat} (hp : qPl k = (20, n)) : qE b0 dA h k = .inl (dA 0, n, .inl (h.1 k)) := by
  simp [qE, qCE, hp]
theorem qE_long {b0 : Nat} {dA : Nat → ClassId} {h : qH} {k n : Nat} (hp : qPl k = (21, n)) : qE b0 dA h k = .inl (dA 1, n, .inr (.inl (h.2.1 k))) := by
  simp [qE, qCE, hp]
theorem qE_bool {b0 : Nat} {dA : Nat → ClassId} {h : qH} {k n : Nat} (hp : qPl k = (22, n)) : qE b0 dA h k = .inl (dA 2, n, .inl (h.1 k)) := by
  simp [qE, qCE, hp]
theorem qE_ref {b0 : Nat} {dA : Nat → ClassId} {h : qH} {k n t : Nat} (hp : qPl k = (23 + t, n)) : qE b0 dA h k = .inl (dA (3 + t), n, .inr (.inr (.inr (.inr (fun j => (h.2.2 k j).map (fun x => b0 + x)))))) := by
  have h1 : ¬ 23 + t < 20 := by omega
  have h2 : ¬ 23 + t = 21 := by omega
  have h3 : ¬ 23 + t < 23 := by omega
  have h4 : 23 + t - 20 = 3 + t := by omega
  simp [qE, qCE, hp, h1, h2, h3, h4]
/-- the locals: a value a place; qdead: nothing is known -/
def qlvs (b0 b : Nat) (lv : List Value) : List (Nat × Value) := (List.range lv.length).filterMap (fun i => match lv[i]? with
  | some v => if v = qdead then none else some (i, qrel b0 b v)
  | none => none)
theorem qlvs_of {b0 b : Nat} {lv : List Value} {q : Nat × Value} (h : q ∈ qlvs b0 b lv) : ∃ v, lv[q.1]? = some v ∧ v ≠ qdead ∧ q.2 = qrel b0 b v := by
  obtain ⟨i, -, hi⟩ := List.mem_filterMap.mp h
  cases hv : lv[i]? with
  | none => rw [hv] at hi; cases hi
  | some v =>
    rw [hv] at hi
    dsimp only at hi
    by_cases hd : v = qdead
    · rw [if_pos hd] at hi; cases hi
    · rw [if_neg hd] at hi
      cases hi
      exact ⟨v, hv, hd, rfl⟩
theorem qlvs_in {b0 b : Nat} {lv : List Value} {i : Nat} {v : Value} (h : lv[i]? = some v) (hd : v ≠ qdead) : (i, qrel b0 b v) ∈ qlvs b0 b lv := by
  refine List.mem_filterMap.mpr ⟨i, List.mem_range.mpr (List.getElem?_eq_some_iff.mp h).1, ?_⟩
  rw [h]
  dsimp only
  rw [if_neg hd]
def qL (b0 b nL : Nat) (lv : List Value) (ls : Array Slot) : Prop := lv_has ls nL (qlvs b0 b lv)
theorem qL.at {b0 b nL : Nat} {lv : List Value} {ls : Array Slot} (h : qL b0 b nL lv ls) {i : Nat} {v : Value} (hv : lv[i]? = some v) (hd : v ≠ qdead) : ls[i]? = some (.val (qrel b0 b v)) := h.2.2 _ (qlvs_in hv hd)
theorem qL.mono {b0 b nL : Nat} {lv : List Value} {ls : Array Slot} {l : List (Nat × Value)} (h : lv_has ls nL l) (hs : ∀ q ∈ qlvs b0 b lv, q ∈ l) : qL b0 b nL lv ls := ⟨h.1, h.2.1, fun q hq => h.2.2 q (hs q hq)⟩
def qkl (lv : List Value) : Nat → List Value
  | 0 => lv
  | i + 1 => match lv[i]? with
    | some v => if v.category == 2 then lv.set i qdead else lv
    | none => lv
def qst (lv : List Value) (i : Nat) (v : Value) : List Value := (qkl lv i).set i v
def qst2 (lv : List Value) (i : Nat) (v : Value) : List Value := ((qkl lv i).set i v).set (i + 1) qdead
theorem qkl_at {lv : List Value} {i j : Nat} {w : Value} (h : (qkl lv i)[j]? = some w) (hd : w ≠ qdead) (hj : j ≠ i) : lv[j]? = some w ∧ ¬ (j + 1 = i ∧ w.category = 2) := by
  cases i with
  | zero => exact ⟨h, fun q => by omega⟩
  | succ i =>
    replace h : (match lv[i]? with
      | some v => if v.category == 2 then lv.set i qdead else lv
      | none => lv)[j]? = some w := h
    cases hv : lv[i]? with
    | none =>
      rw [hv] at h
      refine ⟨h, fun q => ?_⟩
      have : j = i := by omega
      subst this
      dsimp only at h
      rw [hv] at h
      cases h
    | some v =>
      rw [hv] at h
      dsimp only at h
      by_cases hc : (v.category == 2) = true
      · rw [if_pos hc] at h
        by_cases hji : j = i
        · subst hji
          rw [List.getElem?_set_self (List.getElem?_eq_some_iff.mp hv).1] at h
          exact absurd (Option.some.inj h).symm hd
        · rw [List.getElem?_set_ne (fun q => hji q.symm)] at h
          exact ⟨h, fun q => by omega⟩
      · rw [if_neg hc] at h
        refine ⟨h, fun q => ?_⟩
        have : j = i := by omega
        subst this
        rw [hv] at h
        cases h
        exact hc (by simp [q.2])
theorem qL.st1 {b0 b nL : Nat} {lv : List Value} {ls' : Array Slot} {i : Nat} {v : Value} (h : lv_has ls' nL ((i, qrel b0 b v) :: (qlvs b0 b lv).filter (fun q => !(q.1 == i) && !(q.1 + 1 == i && q.2.category == 2)))) : qL b0 b nL (qst lv i v) ls' := by
  refine qL.mono h fun q hq => ?_
  obtain ⟨w, h1, h2, h3⟩ := qlvs_of hq
  obtain ⟨j, x⟩ := q
  dsimp only at h1 h3
  by_cases hj : j = i
  · subst hj
    unfold qst at h1
    have hl : j < ((qkl lv j).set j v).length := (List.getElem?_eq_some_iff.mp h1).1
    rw [List.getElem?_set_self (by simpa using hl)] at h1
    cases h1
    rw [h3]
    exact List.mem_cons_self
  · unfold qst at h1
    rw [List.getElem?_set_ne (fun q => hj q.symm)] at h1
    obtain ⟨a1, a2⟩ := qkl_at h1 h2 hj
    refine List.mem_cons_of_mem _ (List.mem_filter.mpr ⟨by rw [h3]; exact qlvs_in a1 h2, ?_⟩)
    rw [h3, qrel_cat]
    simp only [Bool.and_eq_true, Bool.not_eq_true', beq_eq_false_iff_ne, ne_eq, Bool.and_eq_false_iff]
    refine ⟨hj, ?_⟩
    by_cases hji : j + 1 = i
    · exact Or.inr (fun q => a2 ⟨hji, q⟩)
    · exact Or.inl hji
theorem qL.st2 {b0 b nL : Nat} {lv : List Value} {ls' : Array Slot} {i : Nat} {v : Value} (h : lv_has ls' nL ((i, qrel b0 b v) :: (qlvs b0 b lv).filter (fun q => !(q.1 == i) && (!(q.1 == i + 1) && !(q.1 + 1 == i && q.2.category == 2))))) : qL b0 b nL (qst2 lv i v) ls' := by
  refine qL.mono h fun q hq => ?_
  obtain ⟨w, h1, h2, h3⟩ := qlvs_of hq
  obtain ⟨j, x⟩ := q
  dsimp only at h1 h3
  unfold qst2 at h1
  by_cases hj1 : j = i + 1
  · subst hj1
    have hl := (List.getElem?_eq_some_iff.mp h1).1
    rw [List.getElem?_set_self (by simpa using hl)] at h1
    exact absurd (Option.some.inj h1).symm h2
  · rw [List.getElem?_set_ne (fun q => hj1 q.symm)] at h1
    by_cases hj : j = i
    · subst hj
      have hl : j < ((qkl lv j).set j v).length := (List.getElem?_eq_some_iff.mp h1).1
      rw [List.getElem?_set_self (by simpa using hl)] at h1
      cases h1
      rw [h3]
      exact List.mem_cons_self
    · rw [List.getElem?_set_ne (fun q => hj q.symm)] at h1
      obtain ⟨a1, a2⟩ := qkl_at h1 h2 hj
      refine List.mem_cons_of_mem _ (List.mem_filter.mpr ⟨by rw [h3]; exact qlvs_in a1 h2, ?_⟩)
      rw [h3, qrel_cat]
      simp only [Bool.and_eq_true, Bool.not_eq_true', beq_eq_false_iff_ne, ne_eq, Bool.and_eq_false_iff]
      refine ⟨hj, hj1, ?_⟩
      by_cases hji : j + 1 = i
      · exact Or.inr (fun q => a2 ⟨hji, q⟩)
      · exact Or.inl hji
/-- what the tables say, at a state -/
def qK (D : va_G) (dA : Nat → ClassId) (U : State) : Prop := va_K D vwCl (qTys dA) U ∧ (∀ q ∈ qNF, va_Nw (.fieldLinkNest q.1 q.2.1 q.2.2.1 q.2.2.2.1 q.2.2.2.2.1 q.2.2.2.2.2) U) ∧ (∀ q ∈ qNM, va_Nw (.methodLinkNest q.1 q.2.1 q.2.2.1 q.2.2.2) U) ∧ ∀ C ∈ qAO, va_AO C U
theorem qK.warm {D : va_G} {dA : Nat → ClassId} {s U : State} (h : qK D dA s) (hW : s.WarmedH U.vm) : qK D dA U := ⟨va_K.moved hW.alike h.1, fun q hq => va_Nw.warmF hW (h.2.1 q hq), fun q hq => va_Nw.warmM hW (h.2.2.1 q hq), fun C hC => va_AO.moved hW.alike (h.2.2.2 C hC)⟩
theorem qK.calling {D : va_G} {dA : Nat → ClassId} {U : State} (h : qK D dA U) (g : JFrame) (mk : MethodId) (a : Array Value) : qK D dA (U.calling g mk a) := ⟨va_K.moved (u := U) (U := U.calling g mk a) (Vm.Alike.refl U.vm) h.1, fun q hq => va_Nw.same rfl (rfl : U.vm = (U.calling g mk a).vm) (h.2.1 q hq), fun q hq => va_Nw.same rfl (rfl : U.vm = (U.calling g mk a).vm) (h.2.2.1 q hq), fun C hC => va_AO.moved (u := U) (U := U.calling g mk a) (Vm.Alike.refl U.vm) (h.2.2.2 C hC)⟩
/-- the method's own surroundings -/
def qC (y : qMi) (d : Nat) (z : Option (Nat × (Nat → Int32))) (cT sT : Nat) (p : Program) (R : Room) (s : State) (m : MethodId) (args : Array Value) (meth : Method) (c : Code) (b0 b : Nat) (D : va_G) (dA : Nat → ClassId) : Prop :=
  p.tables.exec = Jvm.exec ∧ c.code = y.2.1 ∧ c.maxLocals = y.2.2.1 ∧ s.vm.findClass y.1.cls = some m.cls ∧ (∀ w ∈ qGW, w.before args s = true) ∧ qK D dA s ∧ (d ≤ R.frames ∧ 39 * d ≤ R.locals ∧ cT ≤ R.cells ∧ sT ≤ R.slots) ∧ b0 ≤ s.heap.size ∧ meth.name = y.1.name ∧ (match z with
    | none => True
    | some q => va_X b q.1 q.2 s s.heap ∧ b < b0)
def qA (b0 : Nat) (D : va_G) (dA : Nat → ClassId) (h : qH) (n : Nat) (s : State) (H : Heap) (locs : List Loc) : Prop := va_P D vwCl (qW b0 dA h n) H ∧ H.size = b0 + n ∧ va_S (fun q => b0 ≤ q) s.heap H locs
def qRet (y : qMi) (pc : Nat) (v : Option Value) : Prop :=
  (y.2.2.2 = none ∧ decode y.2.1 pc = .ok (.return_, 1) ∧ v = none) ∨ (∃ (r : Int32) (ty : FieldType), y.2.2.2 = some ty ∧ decode y.2.1 pc = .ok (.ireturn, 1) ∧ narrow ty (.int r) = .int r ∧ v = some (.int r)) ∨
  (∃ r : Int64, y.2.2.2 = some .long ∧ decode y.2.1 pc = .ok (.lreturn, 1) ∧ v = some (.long r)) ∨ ∃ (r : Nat) (ty : FieldType), y.2.2.2 = some ty ∧ ((∃ n, ty = .object n) ∨ ∃ t, ty = .array t) ∧ decode y.2.1 pc = .ok (.areturn, 1) ∧ v = some (.ref r)
/-- THE JUDGEMENT: from pc, with these locals, this stack, this heap (n cells made in all, ce of them here, with sl slots), the method comes to its end, and answer, heap and number of cells satisfy Rp -/
def qX (y : qMi) (d : Nat) (z : Option (Nat × (Nat → Int32))) (cT sT : Nat) (pc : Nat) (lv st : List Value) (h : qH) (n ce sl : Nat) (Rp : Option Value → qH → Nat → Prop) : Prop :=
  ∀ (p : Program) (l : Launch) (e : Env) (R : Room) (s : State) (m : MethodId) (args : Array Value) (below : List Frame) (meth : Method) (c : Code) (Q : State → Prop) (b0 b : Nat) (D : va_G) (dA : Nat → ClassId),
    qC y d z cT sT p R s m args meth c b0 b D dA →
    (∀ (H : Heap) (locs : List Loc) (ls : Array Slot) (pc : Nat) (v : Option Value) (h : qH) (n : Nat), Rp v h n → qA b0 D dA h n s H locs → qRet y pc v → W p l e R s m args below meth c H locs cT sT Q (F0 m pc ls (v.toList.map (qrel b0 b)))) →
    ∀ (H : Heap) (locs : List Loc) (ls : Array Slot), qA b0 D dA h n s H locs → qL b0 b y.2.2.1 lv ls → W p l e R s m args below meth c H locs ce sl Q (F0 m pc ls (st.map (qrel b0 b)))
section QX
variable {y : qMi} {d : Nat} {z : Option (Nat × (Nat → Int32))} {cT sT pc : Nat} {lv st : List Value} {h : qH} {n ce sl : Nat} {Rp : Option Value → qH → Nat → Prop}
theorem qx_iconst {i : Int} {v : Int32} (hd : decode y.2.1 pc = .ok (.iconst i, 1)) (hv : Int32.ofInt i = v) (k : qX y d z cT sT (pc + 1) lv (.int v :: st) h n ce sl Rp) : qX y d z cT sT pc lv st h n ce sl Rp := fun p l e R s m args below meth c Q b0 b D dA C hr H locs ls hA hl => lv_iconst C.1 C.2.1 hd hv (k p l e R s m args below meth c Q b0 b D dA C hr H locs ls hA hl)
theorem qx_bipush {i : Int} {v : Int32} (hd : decode y.2.1 pc = .ok (.bipush i, 2)) (hv : (Int8.ofInt i).toInt32 = v) (k : qX y d z cT sT (pc + 2) lv (.int v :: st) h n ce sl Rp) : qX y d z cT sT pc lv st h n ce sl Rp := fun p l e R s m args below meth c Q b0 b D dA C hr H locs ls hA hl => lv_bipush C.1 C.2.1 hd hv (k p l e R s m args below meth c Q b0 b D dA C hr H locs ls hA hl)
theorem qx_sipush {i : Int} {v : Int32} (hd : decode y.2.1 pc = .ok (.sipush i, 3)) (hv : (Int16.ofInt i).toInt32 = v) (k : qX y d z cT sT (pc + 3) lv (.int v :: st) h n ce sl Rp) : qX y d z cT sT pc lv st h n ce sl Rp := fun p l e R s m args below meth c Q b0 b D dA C hr H locs ls hA hl => lv_sipush C.1 C.2.1 hd hv (k p l e R s m args below meth c Q b0 b D dA C hr H locs ls hA hl)
theorem qx_lconst {i : Fin 2} {v : Int64} (hd : decode y.2.1 pc = .ok (.lconst i, 1)) (hv : Int64.ofNat (i : Nat) = v) (k : qX y d z cT sT (pc + 1) lv (.long v :: st) h n ce sl Rp) : qX y d z cT sT pc lv st h n ce sl Rp := fun p l e R s m args below meth c Q b0 b D dA C hr H locs ls hA hl => lv_lconst C.1 C.2.1 hd hv (k p l e R s m args below meth c Q b0 b D dA C hr H locs ls hA hl)
theorem qx_ldc2 {i : Nat} {v : Int64} (hd : decode y.2.1 pc = .ok (.ldc2_w i, 3)) (hw : Jvm.Cond.constantLong y.1.cls i v ∈ qGW) (k : qX y d z cT sT (pc + 3) lv (.long v :: st) h n ce sl Rp) : qX y d z cT sT pc lv st h n ce sl Rp := fun p l e R s m args below meth c Q b0 b D dA C hr H locs ls hA hl => lv_ldc2 C.1 C.2.1 C.2.2.2.1 (C.2.2.2.2.1 _ hw) hd (k p l e R s m args below meth c Q b0 b D dA C hr H locs ls hA hl)
theorem qx_ldc {i : Nat} {v : Int32} (hd : decode y.2.1 pc = .ok (.ldc i, 2)) (hw : Jvm.Cond.constant y.1.cls i v ∈ qGW) (k : qX y d z cT sT (pc + 2) lv (.int v :: st) h n ce sl Rp) : qX y d z cT sT pc lv st h n ce sl Rp := fun p l e R s m args below meth c Q b0 b D dA C hr H locs ls hA hl => lv_ldc C.1 C.2.1 C.2.2.2.1 (C.2.2.2.2.1 _ hw) hd (k p l e R s m args below meth c Q b0 b D dA C hr H locs ls hA hl)
theorem qx_iload_n {i : Fin 4} {j : Nat} {x : Int32} (hd : decode y.2.1 pc = .ok (.iload_n i, 1)) (hi : (i : Nat) = j) (hv : lv[j]? = some (.int x)) (k : qX y d z cT sT (pc + 1) lv (.int x :: st) h n ce sl Rp) : qX y d z cT sT pc lv st h n ce sl Rp := fun p l e R s m args below meth c Q b0 b D dA C hr H locs ls hA hl => lv_iload_n C.1 C.2.1 hd hi (hl.at hv (fun q => by cases q)) (k p l e R s m args below meth c Q b0 b D dA C hr H locs ls hA hl)
theorem qx_iload {i : Nat} {x : Int32} (hd : decode y.2.1 pc = .ok (.iload i, 2)) (hv : lv[i]? = some (.int x)) (k : qX y d z cT sT (pc + 2) lv (.int x :: st) h n ce sl Rp) : qX y d z cT sT pc lv st h n ce sl Rp := fun p l e R s m args below meth c Q b0 b D dA C hr H locs ls hA hl => lv_iload C.1 C.2.1 hd (hl.at hv (fun q => by cases q)) (k p l e R s m args below meth c Q b0 b D dA C hr H locs ls hA hl)
theorem qx_istore_n {i : Nat} {x : Int32} {lv1 : List Value} {j : Fin 4} (hd : decode y.2.1 pc = .ok (.istore_n j, 1)) (hi : (j : Nat) = i) (hn : i < y.2.2.1) (he : qst lv i (.int x) = lv1) (k : qX y d z cT sT (pc + 1) lv1 st h n ce sl Rp) : qX y d z cT sT pc lv (.int x :: st) h n ce sl Rp := fun p l e R s m args below meth c Q b0 b D dA C hr H locs ls hA hl => lv_istore_n C.1 C.2.1 hd hi hl hn rfl (fun ls1 hl1 => k p l e R s m args below meth c Q b0 b D dA C hr H locs ls1 hA (he ▸ qL.st1 (v := .int x) hl1))
theorem qx_istore {i : Nat} {x : Int32} {lv1 : List Value} (hd : decode y.2.1 pc = .ok (.istore i, 2))  (hn : i < y.2.2.1) (he : qst lv i (.int x) = lv1) (k : qX y d z cT sT (pc + 2) lv1 st h n ce sl Rp) : qX y d z cT sT pc lv (.int x :: st) h n ce sl Rp := fun p l e R s m args below meth c Q b0 b D dA C hr H locs ls hA hl => lv_istore C.1 C.2.1 hd hl hn rfl (fun ls1 hl1 => k p l e R s m args below meth c Q b0 b D dA C hr H locs ls1 hA (he ▸ qL.st1 (v := .int x) hl1))
theorem qx_lload_n {i : Fin 4} {j : Nat} {x : Int64} (hd : decode y.2.1 pc = .ok (.lload_n i, 1)) (hi : (i : Nat) = j) (hv : lv[j]? = some (.long x)) (k : qX y d z cT sT (pc + 1) lv (.long x :: st) h n ce sl Rp) : qX y d z cT sT pc lv st h n ce sl Rp := fun p l e R s m args below meth c Q b0 b D dA C hr H locs ls hA hl => lv_lload_n C.1 C.2.1 hd hi (hl.at hv (fun q => by cases q)) (k p l e R s m args below meth c Q b0 b D dA C hr H locs ls hA hl)
theorem qx_lload {i : Nat} {x : Int64} (hd : decode y.2.1 pc = .ok (.lload i, 2)) (hv : lv[i]? = some (.long x)) (k : qX y d z cT sT (pc + 2) lv (.long x :: st) h n ce sl Rp) : qX y d z cT sT pc lv st h n ce sl Rp := fun p l e R s m args below meth c Q b0 b D dA C hr H locs ls hA hl => lv_lload C.1 C.2.1 hd (hl.at hv (fun q => by cases q)) (k p l e R s m args below meth c Q b0 b D dA C hr H locs ls hA hl)
theorem qx_lstore_n {i : Nat} {x : Int64} {lv1 : List Value} {j : Fin 4} (hd : decode y.2.1 pc = .ok (.lstore_n j, 1)) (hi : (j : Nat) = i) (hn : i + 1 < y.2.2.1) (he : qst2 lv i (.long x) = lv1) (k : qX y d z cT sT (pc + 1) lv1 st h n ce sl Rp) : qX y d z cT sT pc lv (.long x :: st) h n ce sl Rp := fun p l e R s m args below meth c Q b0 b D dA C hr H locs ls hA hl => lv_lstore_n C.1 C.2.1 hd hi hl hn rfl (fun ls1 hl1 => k p l e R s m args below meth c Q b0 b D dA C hr H locs ls1 hA (he ▸ qL.st2 (v := .long x) hl1))
theorem qx_lstore {i : Nat} {x : Int64} {lv1 : List Value} (hd : decode y.2.1 pc = .ok (.lstore i, 2))  (hn : i + 1 < y.2.2.1) (he : qst2 lv i (.long x) = lv1) (k : qX y d z cT sT (pc + 2) lv1 st h n ce sl Rp) : qX y d z cT sT pc lv (.long x :: st) h n ce sl Rp := fun p l e R s m args below meth c Q b0 b D dA C hr H locs ls hA hl => lv_lstore C.1 C.2.1 hd hl hn rfl (fun ls1 hl1 => k p l e R s m args below meth c Q b0 b D dA C hr H locs ls1 hA (he ▸ qL.st2 (v := .long x) hl1))
theorem qx_aload_n {i : Fin 4} {j : Nat} {x : Nat} (hd : decode y.2.1 pc = .ok (.aload_n i, 1)) (hi : (i : Nat) = j) (hv : lv[j]? = some (.ref x)) (k : qX y d z cT sT (pc + 1) lv (.ref x :: st) h n ce sl Rp) : qX y d z cT sT pc lv st h n ce sl Rp := fun p l e R s m args below meth c Q b0 b D dA C hr H locs ls hA hl => lv_aload_n C.1 C.2.1 hd hi (hl.at hv (fun q => by cases q)) (k p l e R s m args below meth c Q b0 b D dA C hr H locs ls hA hl)
theorem qx_aload {i : Nat} {x : Nat} (hd : decode y.2.1 pc = .ok (.aload i, 2)) (hv : lv[i]? = some (.ref x)) (k : qX y d z cT sT (pc + 2) lv (.ref x :: st) h n ce sl Rp) : qX y d z cT sT pc lv st h n ce sl Rp := fun p l e R s m args below meth c Q b0 b D dA C hr H locs ls hA hl => lv_aload C.1 C.2.1 hd (hl.at hv (fun q => by cases q)) (k p l e R s m args below meth c Q b0 b D dA C hr H locs ls hA hl)
theorem qx_astore_n {i : Nat} {x : Nat} {lv1 : List Value} {j : Fin 4} (hd : decode y.2.1 pc = .ok (.astore_n j, 1)) (hi : (j : Nat) = i) (hn : i < y.2.2.1) (he : qst lv i (.ref x) = lv1) (k : qX y d z cT sT (pc + 1) lv1 st h n ce sl Rp) : qX y d z cT sT pc lv (.ref x :: st) h n ce sl Rp := fun p l e R s m args below meth c Q b0 b D dA C hr H locs ls hA hl => lv_astore_n C.1 C.2.1 hd hi hl hn rfl (fun ls1 hl1 => k p l e R s m args below meth c Q b0 b D dA C hr H locs ls1 hA (he ▸ qL.st1 (v := .ref x) hl1))
theorem qx_astore {i : Nat} {x : Nat} {lv1 : List Value} (hd : decode y.2.1 pc = .ok (.astore i, 2))  (hn : i < y.2.2.1) (he : qst lv i (.ref x) = lv1) (k : qX y d z cT sT (pc + 2) lv1 st h n ce sl Rp) : qX y d z cT sT pc lv (.ref x :: st) h n ce sl Rp := fun p l e R s m args below meth c Q b0 b D dA C hr H locs ls hA hl => lv_astore C.1 C.2.1 hd hl hn rfl (fun ls1 hl1 => k p l e R s m args below meth c Q b0 b D dA C hr H locs ls1 hA (he ▸ qL.st1 (v := .ref x) hl1))
theorem qx_aload_s {i : Fin 4} {j : Nat} {x : Nat} (hd : decode y.2.1 pc = .ok (.aload_n i, 1)) (hi : (i : Nat) = j) (hv : lv[j]? = some (.retAddr 0)) (k : qX y d z cT sT (pc + 1) lv (.retAddr 0 :: st) h n ce sl Rp) : qX y d z cT sT pc lv st h n ce sl Rp := fun p l e R s m args below meth c Q b0 b D dA C hr H locs ls hA hl => lv_aload_n C.1 C.2.1 hd hi (hl.at hv (fun q => by cases q)) (k p l e R s m args below meth c Q b0 b D dA C hr H locs ls hA hl)
theorem qx_iinc {i j : Nat} {a : Int} {x v : Int32} {lv1 : List Value} (hd : decode y.2.1 pc = .ok (.iinc i a, 3)) (hv : lv[i]? = some (.int x)) (ha : x + Int32.ofInt a = v) (hn : i < y.2.2.1) (he : qst lv i (.int v) = lv1) (k : qX y d z cT sT (pc + 3) lv1 st h n ce sl Rp) : qX y d z cT sT pc lv st h n ce sl Rp := by
  intro p l e R s m args below meth c Q b0 b D dA C hr H locs ls hA hl
  obtain ⟨j, hj⟩ := List.getElem?_of_mem (qlvs_in (b0 := b0) (b := b) hv (fun q => by cases q))
  exact lv_iinc C.1 C.2.1 hd hl hj ha hn rfl (fun ls1 hl1 => k p l e R s m args below meth c Q b0 b D dA C hr H locs ls1 hA (he ▸ qL.st1 (v := .int v) hl1))
theorem qx_iadd {a x : Int32} (hd : decode y.2.1 pc = .ok (.iadd, 1))  (k : qX y d z cT sT (pc + 1) lv (.int (a + x) :: st) h n ce sl Rp) : qX y d z cT sT pc lv (.int x :: .int a :: st) h n ce sl Rp := fun p l e R s m args below meth c Q b0 b D dA C hr H locs ls hA hl => lv_iadd C.1 C.2.1 hd (k p l e R s m args below meth c Q b0 b D dA C hr H locs ls hA hl)
theorem qx_isub {a x : Int32} (hd : decode y.2.1 pc = .ok (.isub, 1))  (k : qX y d z cT sT (pc + 1) lv (.int (a - x) :: st) h n ce sl Rp) : qX y d z cT sT pc lv (.int x :: .int a :: st) h n ce sl Rp := fun p l e R s m args below meth c Q b0 b D dA C hr H locs ls hA hl => lv_isub C.1 C.2.1 hd (k p l e R s m args below meth c Q b0 b D dA C hr H locs ls hA hl)
theorem qx_imul {a x : Int32} (hd : decode y.2.1 pc = .ok (.imul, 1))  (k : qX y d z cT sT (pc + 1) lv (.int (a * x) :: st) h n ce sl Rp) : qX y d z cT sT pc lv (.int x :: .int a :: st) h n ce sl Rp := fun p l e R s m args below meth c Q b0 b D dA C hr H locs ls hA hl => lv_imul C.1 C.2.1 hd (k p l e R s m args below meth c Q b0 b D dA C hr H locs ls hA hl)
theorem qx_iand {a x : Int32} (hd : decode y.2.1 pc = .ok (.iand, 1))  (k : qX y d z cT sT (pc + 1) lv (.int (a &&& x) :: st) h n ce sl Rp) : qX y d z cT sT pc lv (.int x :: .int a :: st) h n ce sl Rp := fun p l e R s m args below meth c Q b0 b D dA C hr H locs ls hA hl => lv_iand C.1 C.2.1 hd (k p l e R s m args below meth c Q b0 b D dA C hr H locs ls hA hl)
theorem qx_ior {a x : Int32} (hd : decode y.2.1 pc = .ok (.ior, 1))  (k : qX y d z cT sT (pc + 1) lv (.int (a ||| x) :: st) h n ce sl Rp) : qX y d z cT sT pc lv (.int x :: .int a :: st) h n ce sl Rp := fun p l e R s m args below meth c Q b0 b D dA C hr H locs ls hA hl => lv_ior C.1 C.2.1 hd (k p l e R s m args below meth c Q b0 b D dA C hr H locs ls hA hl)
theorem qx_ixor {a x : Int32} (hd : decode y.2.1 pc = .ok (.ixor, 1))  (k : qX y d z cT sT (pc + 1) lv (.int (a ^^^ x) :: st) h n ce sl Rp) : qX y d z cT sT pc lv (.int x :: .int a :: st) h n ce sl Rp := fun p l e R s m args below meth c Q b0 b D dA C hr H locs ls hA hl => lv_ixor C.1 C.2.1 hd (k p l e R s m args below meth c Q b0 b D dA C hr H locs ls hA hl)
theorem qx_ishl {a x : Int32} (hd : decode y.2.1 pc = .ok (.ishl, 1))  (k : qX y d z cT sT (pc + 1) lv (.int (a <<< (x &&& 31)) :: st) h n ce sl Rp) : qX y d z cT sT pc lv (.int x :: .int a :: st) h n ce sl Rp := fun p l e R s m args below meth c Q b0 b D dA C hr H locs ls hA hl => lv_ishl C.1 C.2.1 hd (k p l e R s m args below meth c Q b0 b D dA C hr H locs ls hA hl)
theorem qx_ishr {a x : Int32} (hd : decode y.2.1 pc = .ok (.ishr, 1))  (k : qX y d z cT sT (pc + 1) lv (.int (a >>> (x &&& 31)) :: st) h n ce sl Rp) : qX y d z cT sT pc lv (.int x :: .int a :: st) h n ce sl Rp := fun p l e R s m args below meth c Q b0 b D dA C hr H locs ls hA hl => lv_ishr C.1 C.2.1 hd (k p l e R s m args below meth c Q b0 b D dA C hr H locs ls hA hl)
theorem qx_idiv {a x : Int32} (hd : decode y.2.1 pc = .ok (.idiv, 1)) (h0 : ¬ x = 0) (k : qX y d z cT sT (pc + 1) lv (.int (a / x) :: st) h n ce sl Rp) : qX y d z cT sT pc lv (.int x :: .int a :: st) h n ce sl Rp := fun p l e R s m args below meth c Q b0 b D dA C hr H locs ls hA hl => lv_idiv C.1 C.2.1 hd h0 (k p l e R s m args below meth c Q b0 b D dA C hr H locs ls hA hl)
theorem qx_irem {a x : Int32} (hd : decode y.2.1 pc = .ok (.irem, 1)) (h0 : ¬ x = 0) (k : qX y d z cT sT (pc + 1) lv (.int (a - a / x * x) :: st) h n ce sl Rp) : qX y d z cT sT pc lv (.int x :: .int a :: st) h n ce sl Rp := fun p l e R s m args below meth c Q b0 b D dA C hr H locs ls hA hl => lv_irem C.1 C.2.1 hd h0 (k p l e R s m args below meth c Q b0 b D dA C hr H locs ls hA hl)
theorem qx_ladd {a x : Int64} (hd : decode y.2.1 pc = .ok (.ladd, 1))  (k : qX y d z cT sT (pc + 1) lv (.long (a + x) :: st) h n ce sl Rp) : qX y d z cT sT pc lv (.long x :: .long a :: st) h n ce sl Rp := fun p l e R s m args below meth c Q b0 b D dA C hr H locs ls hA hl => lv_ladd C.1 C.2.1 hd (k p l e R s m args below meth c Q b0 b D dA C hr H locs ls hA hl)
theorem qx_lsub {a x : Int64} (hd : decode y.2.1 pc = .ok (.lsub, 1))  (k : qX y d z cT sT (pc + 1) lv (.long (a - x) :: st) h n ce sl Rp) : qX y d z cT sT pc lv (.long x :: .long a :: st) h n ce sl Rp := fun p l e R s m args below meth c Q b0 b D dA C hr H locs ls hA hl => lv_lsub C.1 C.2.1 hd (k p l e R s m args below meth c Q b0 b D dA C hr H locs ls hA hl)
theorem qx_lmul {a x : Int64} (hd : decode y.2.1 pc = .ok (.lmul, 1))  (k : qX y d z cT sT (pc + 1) lv (.long (a * x) :: st) h n ce sl Rp) : qX y d z cT sT pc lv (.long x :: .long a :: st) h n ce sl Rp := fun p l e R s m args below meth c Q b0 b D dA C hr H locs ls hA hl => lv_lmul C.1 C.2.1 hd (k p l e R s m args below meth c Q b0 b D dA C hr H locs ls hA hl)
theorem qx_land {a x : Int64} (hd : decode y.2.1 pc = .ok (.land, 1))  (k : qX y d z cT sT (pc + 1) lv (.long (a &&& x) :: st) h n ce sl Rp) : qX y d z cT sT pc lv (.long x :: .long a :: st) h n ce sl Rp := fun p l e R s m args below meth c Q b0 b D dA C hr H locs ls hA hl => lv_land C.1 C.2.1 hd (k p l e R s m args below meth c Q b0 b D dA C hr H locs ls hA hl)
theorem qx_lor {a x : Int64} (hd : decode y.2.1 pc = .ok (.lor, 1))  (k : qX y d z cT sT (pc + 1) lv (.long (a ||| x) :: st) h n ce sl Rp) : qX y d z cT sT pc lv (.long x :: .long a :: st) h n ce sl Rp := fun p l e R s m args below meth c Q b0 b D dA C hr H locs ls hA hl => lv_lor C.1 C.2.1 hd (k p l e R s m args below meth c Q b0 b D dA C hr H locs ls hA hl)
theorem qx_lxor {a x : Int64} (hd : decode y.2.1 pc = .ok (.lxor, 1))  (k : qX y d z cT sT (pc + 1) lv (.long (a ^^^ x) :: st) h n ce sl Rp) : qX y d z cT sT pc lv (.long x :: .long a :: st) h n ce sl Rp := fun p l e R s m args below meth c Q b0 b D dA C hr H locs ls hA hl => lv_lxor C.1 C.2.1 hd (k p l e R s m args below meth c Q b0 b D dA C hr H locs ls hA hl)
theorem qx_ldiv {a x : Int64} (hd : decode y.2.1 pc = .ok (.ldiv, 1)) (h0 : ¬ x = 0) (k : qX y d z cT sT (pc + 1) lv (.long (a / x) :: st) h n ce sl Rp) : qX y d z cT sT pc lv (.long x :: .long a :: st) h n ce sl Rp := fun p l e R s m args below meth c Q b0 b D dA C hr H locs ls hA hl => lv_ldiv C.1 C.2.1 hd h0 (k p l e R s m args below meth c Q b0 b D dA C hr H locs ls hA hl)
theorem qx_lrem {a x : Int64} (hd : decode y.2.1 pc = .ok (.lrem, 1)) (h0 : ¬ x = 0) (k : qX y d z cT sT (pc + 1) lv (.long (a - a / x * x) :: st) h n ce sl Rp) : qX y d z cT sT pc lv (.long x :: .long a :: st) h n ce sl Rp := fun p l e R s m args below meth c Q b0 b D dA C hr H locs ls hA hl => lv_lrem C.1 C.2.1 hd h0 (k p l e R s m args below meth c Q b0 b D dA C hr H locs ls hA hl)
theorem qx_ineg {x : Int32} (hd : decode y.2.1 pc = .ok (.ineg, 1))  (k : qX y d z cT sT (pc + 1) lv (.int (-x) :: st) h n ce sl Rp) : qX y d z cT sT pc lv (.int x :: st) h n ce sl Rp := fun p l e R s m args below meth c Q b0 b D dA C hr H locs ls hA hl => lv_ineg C.1 C.2.1 hd (k p l e R s m args below meth c Q b0 b D dA C hr H locs ls hA hl)
theorem qx_lneg {x : Int64} (hd : decode y.2.1 pc = .ok (.lneg, 1))  (k : qX y d z cT sT (pc + 1) lv (.long (-x) :: st) h n ce sl Rp) : qX y d z cT sT pc lv (.long x :: st) h n ce sl Rp := fun p l e R s m args below meth c Q b0 b D dA C hr H locs ls hA hl => lv_lneg C.1 C.2.1 hd (k p l e R s m args below meth c Q b0 b D dA C hr H locs ls hA hl)
theorem qx_lshl {a : Int64} {x : Int32} (hd : decode y.2.1 pc = .ok (.lshl, 1))  (k : qX y d z cT sT (pc + 1) lv (.long (a <<< (x.toInt64 &&& 63)) :: st) h n ce sl Rp) : qX y d z cT sT pc lv (.int x :: .long a :: st) h n ce sl Rp := fun p l e R s m args below meth c Q b0 b D dA C hr H locs ls hA hl => lv_lshl C.1 C.2.1 hd rfl (k p l e R s m args below meth c Q b0 b D dA C hr H locs ls hA hl)
theorem qx_lshr {a : Int64} {x : Int32} (hd : decode y.2.1 pc = .ok (.lshr, 1))  (k : qX y d z cT sT (pc + 1) lv (.long (a >>> (x.toInt64 &&& 63)) :: st) h n ce sl Rp) : qX y d z cT sT pc lv (.int x :: .long a :: st) h n ce sl Rp := fun p l e R s m args below meth c Q b0 b D dA C hr H locs ls hA hl => lv_lshr C.1 C.2.1 hd rfl (k p l e R s m args below meth c Q b0 b D dA C hr H locs ls hA hl)
theorem qx_i2l {x : Int32} (hd : decode y.2.1 pc = .ok (.i2l, 1))  (k : qX y d z cT sT (pc + 1) lv (.long x.toInt64 :: st) h n ce sl Rp) : qX y d z cT sT pc lv (.int x :: st) h n ce sl Rp := fun p l e R s m args below meth c Q b0 b D dA C hr H locs ls hA hl => lv_i2l C.1 C.2.1 hd rfl (k p l e R s m args below meth c Q b0 b D dA C hr H locs ls hA hl)
theorem qx_l2i {x : Int64} (hd : decode y.2.1 pc = .ok (.l2i, 1))  (k : qX y d z cT sT (pc + 1) lv (.int x.toInt32 :: st) h n ce sl Rp) : qX y d z cT sT pc lv (.long x :: st) h n ce sl Rp := fun p l e R s m args below meth c Q b0 b D dA C hr H locs ls hA hl => lv_l2i C.1 C.2.1 hd rfl (k p l e R s m args below meth c Q b0 b D dA C hr H locs ls hA hl)
theorem qx_lcmp {a x : Int64} (hd : decode y.2.1 pc = .ok (.lcmp, 1))  (k : qX y d z cT sT (pc + 1) lv (.int (lg_cmp a x) :: st) h n ce sl Rp) : qX y d z cT sT pc lv (.long x :: .long a :: st) h n ce sl Rp := fun p l e R s m args below meth c Q b0 b D dA C hr H locs ls hA hl => W.lcmp C.1 C.2.1 hd (k p l e R s m args below meth c Q b0 b D dA C hr H locs ls hA hl)
theorem qx_dup {v : Value} (hd : decode y.2.1 pc = .ok (.dup, 1)) (hv : v.category = 1) (k : qX y d z cT sT (pc + 1) lv (v :: v :: st) h n ce sl Rp) : qX y d z cT sT pc lv (v :: st) h n ce sl Rp := fun p l e R s m args below meth c Q b0 b D dA C hr H locs ls hA hl => lv_dup C.1 C.2.1 hd ((qrel_cat b0 b v).trans hv) (k p l e R s m args below meth c Q b0 b D dA C hr H locs ls hA hl)
theorem qx_pop {v : Value} (hd : decode y.2.1 pc = .ok (.pop, 1)) (hv : v.category = 1) (k : qX y d z cT sT (pc + 1) lv st h n ce sl Rp) : qX y d z cT sT pc lv (v :: st) h n ce sl Rp := fun p l e R s m args below meth c Q b0 b D dA C hr H locs ls hA hl => lv_pop C.1 C.2.1 hd ((qrel_cat b0 b v).trans hv) (k p l e R s m args below meth c Q b0 b D dA C hr H locs ls hA hl)
theorem qx_dup_x1 {v w : Value} (hd : decode y.2.1 pc = .ok (.dup_x1, 1)) (hv : v.category = 1) (hw : w.category = 1) (k : qX y d z cT sT (pc + 1) lv (v :: w :: v :: st) h n ce sl Rp) : qX y d z cT sT pc lv (v :: w :: st) h n ce sl Rp := fun p l e R s m args below meth c Q b0 b D dA C hr H locs ls hA hl => lv_dup_x1 C.1 C.2.1 hd ((qrel_cat b0 b v).trans hv) ((qrel_cat b0 b w).trans hw) (k p l e R s m args below meth c Q b0 b D dA C hr H locs ls hA hl)
theorem qx_dup_x2 {v w u : Value} (hd : decode y.2.1 pc = .ok (.dup_x2, 1)) (hv : v.category = 1) (hw : w.category = 1) (hu : u.category = 1) (k : qX y d z cT sT (pc + 1) lv (v :: w :: u :: v :: st) h n ce sl Rp) : qX y d z cT sT pc lv (v :: w :: u :: st) h n ce sl Rp := fun p l e R s m args below meth c Q b0 b D dA C hr H locs ls hA hl => lv_dup_x2 C.1 C.2.1 hd ((qrel_cat b0 b v).trans hv) ((qrel_cat b0 b w).trans hw) ((qrel_cat b0 b u).trans hu) (k p l e R s m args below meth c Q b0 b D dA C hr H locs ls hA hl)
theorem qx_dup2 {v w : Value} (hd : decode y.2.1 pc = .ok (.dup2, 1)) (hv : v.category = 1) (hw : w.category = 1) (k : qX y d z cT sT (pc + 1) lv (v :: w :: v :: w :: st) h n ce sl Rp) : qX y d z cT sT pc lv (v :: w :: st) h n ce sl Rp := fun p l e R s m args below meth c Q b0 b D dA C hr H locs ls hA hl => lv_dup2_11 C.1 C.2.1 hd ((qrel_cat b0 b v).trans hv) ((qrel_cat b0 b w).trans hw) (k p l e R s m args below meth c Q b0 b D dA C hr H locs ls hA hl)
theorem qx_dup2L {v : Value} (hd : decode y.2.1 pc = .ok (.dup2, 1)) (hv : v.category = 2) (k : qX y d z cT sT (pc + 1) lv (v :: v :: st) h n ce sl Rp) : qX y d z cT sT pc lv (v :: st) h n ce sl Rp := fun p l e R s m args below meth c Q b0 b D dA C hr H locs ls hA hl => lv_dup2_2 C.1 C.2.1 hd ((qrel_cat b0 b v).trans hv) (k p l e R s m args below meth c Q b0 b D dA C hr H locs ls hA hl)
theorem qx_pop2L {v : Value} (hd : decode y.2.1 pc = .ok (.pop2, 1)) (hv : v.category = 2) (k : qX y d z cT sT (pc + 1) lv st h n ce sl Rp) : qX y d z cT sT pc lv (v :: st) h n ce sl Rp := fun p l e R s m args below meth c Q b0 b D dA C hr H locs ls hA hl => lv_pop2_2 C.1 C.2.1 hd ((qrel_cat b0 b v).trans hv) (k p l e R s m args below meth c Q b0 b D dA C hr H locs ls hA hl)
theorem qx_dup2_x1L {v w : Value} (hd : decode y.2.1 pc = .ok (.dup2_x1, 1)) (hv : v.category = 2) (hw : w.category = 1) (k : qX y d z cT sT (pc + 1) lv (v :: w :: v :: st) h n ce sl Rp) : qX y d z cT sT pc lv (v :: w :: st) h n ce sl Rp := fun p l e R s m args below meth c Q b0 b D dA C hr H locs ls hA hl => lv_dup2_x1_2 C.1 C.2.1 hd ((qrel_cat b0 b v).trans hv) ((qrel_cat b0 b w).trans hw) (k p l e R s m args below meth c Q b0 b D dA C hr H locs ls hA hl)
theorem qx_dup2_x2L {v w u : Value} (hd : decode y.2.1 pc = .ok (.dup2_x2, 1)) (hv : v.category = 2) (hw : w.category = 1) (hu : u.category = 1) (k : qX y d z cT sT (pc + 1) lv (v :: w :: u :: v :: st) h n ce sl Rp) : qX y d z cT sT pc lv (v :: w :: u :: st) h n ce sl Rp := fun p l e R s m args below meth c Q b0 b D dA C hr H locs ls hA hl => lv_dup2_x2_2 C.1 C.2.1 hd ((qrel_cat b0 b v).trans hv) ((qrel_cat b0 b w).trans hw) ((qrel_cat b0 b u).trans hu) (k p l e R s m args below meth c Q b0 b D dA C hr H locs ls hA hl)
theorem qx_if_eq {x : Int32} {off : Int} {t : Nat} (hd : decode y.2.1 pc = .ok (.ifCond .eq off, 3)) (ht : (pc : Int) + off = (t : Int)) (kt : x = 0 → qX y d z cT sT t lv st h n ce sl Rp) (kf : ¬ x = 0 → qX y d z cT sT (pc + 3) lv st h n ce sl Rp) : qX y d z cT sT pc lv (.int x :: st) h n ce sl Rp := fun p l e R s m args below meth c Q b0 b D dA C hr H locs ls hA hl => lv_if_eq C.1 C.2.1 hd ht (fun q => kt q p l e R s m args below meth c Q b0 b D dA C hr H locs ls hA hl) (fun q => kf q p l e R s m args below meth c Q b0 b D dA C hr H locs ls hA hl)
theorem qx_icmp_eq {a x : Int32} {off : Int} {t : Nat} (hd : decode y.2.1 pc = .ok (.if_icmp .eq off, 3)) (ht : (pc : Int) + off = (t : Int)) (kt : a = x → qX y d z cT sT t lv st h n ce sl Rp) (kf : ¬ a = x → qX y d z cT sT (pc + 3) lv st h n ce sl Rp) : qX y d z cT sT pc lv (.int x :: .int a :: st) h n ce sl Rp := fun p l e R s m args below meth c Q b0 b D dA C hr H locs ls hA hl => lv_icmp_eq C.1 C.2.1 hd ht (fun q => kt q p l e R s m args below meth c Q b0 b D dA C hr H locs ls hA hl) (fun q => kf q p l e R s m args below meth c Q b0 b D dA C hr H locs ls hA hl)
theorem qx_if_ne {x : Int32} {off : Int} {t : Nat} (hd : decode y.2.1 pc = .ok (.ifCond .ne off, 3)) (ht : (pc : Int) + off = (t : Int)) (kt : ¬ x = 0 → qX y d z cT sT t lv st h n ce sl Rp) (kf : x = 0 → qX y d z cT sT (pc + 3) lv st h n ce sl Rp) : qX y d z cT sT pc lv (.int x :: st) h n ce sl Rp := fun p l e R s m args below meth c Q b0 b D dA C hr H locs ls hA hl => lv_if_ne C.1 C.2.1 hd ht (fun q => kt q p l e R s m args below meth c Q b0 b D dA C hr H locs ls hA hl) (fun q => kf q p l e R s m args below meth c Q b0 b D dA C hr H locs ls hA hl)
theorem qx_icmp_ne {a x : Int32} {off : Int} {t : Nat} (hd : decode y.2.1 pc = .ok (.if_icmp .ne off, 3)) (ht : (pc : Int) + off = (t : Int)) (kt : ¬ a = x → qX y d z cT sT t lv st h n ce sl Rp) (kf : a = x → qX y d z cT sT (pc + 3) lv st h n ce sl Rp) : qX y d z cT sT pc lv (.int x :: .int a :: st) h n ce sl Rp := fun p l e R s m args below meth c Q b0 b D dA C hr H locs ls hA hl => lv_icmp_ne C.1 C.2.1 hd ht (fun q => kt q p l e R s m args below meth c Q b0 b D dA C hr H locs ls hA hl) (fun q => kf q p l e R s m args below meth c Q b0 b D dA C hr H locs ls hA hl)
theorem qx_if_lt {x : Int32} {off : Int} {t : Nat} (hd : decode y.2.1 pc = .ok (.ifCond .lt off, 3)) (ht : (pc : Int) + off = (t : Int)) (kt : x < 0 → qX y d z cT sT t lv st h n ce sl Rp) (kf : ¬ x < 0 → qX y d z cT sT (pc + 3) lv st h n ce sl Rp) : qX y d z cT sT pc lv (.int x :: st) h n ce sl Rp := fun p l e R s m args below meth c Q b0 b D dA C hr H locs ls hA hl => lv_if_lt C.1 C.2.1 hd ht (fun q => kt q p l e R s m args below meth c Q b0 b D dA C hr H locs ls hA hl) (fun q => kf q p l e R s m args below meth c Q b0 b D dA C hr H locs ls hA hl)
theorem qx_icmp_lt {a x : Int32} {off : Int} {t : Nat} (hd : decode y.2.1 pc = .ok (.if_icmp .lt off, 3)) (ht : (pc : Int) + off = (t : Int)) (kt : a < x → qX y d z cT sT t lv st h n ce sl Rp) (kf : ¬ a < x → qX y d z cT sT (pc + 3) lv st h n ce sl Rp) : qX y d z cT sT pc lv (.int x :: .int a :: st) h n ce sl Rp := fun p l e R s m args below meth c Q b0 b D dA C hr H locs ls hA hl => lv_icmp_lt C.1 C.2.1 hd ht (fun q => kt q p l e R s m args below meth c Q b0 b D dA C hr H locs ls hA hl) (fun q => kf q p l e R s m args below meth c Q b0 b D dA C hr H locs ls hA hl)
theorem qx_if_ge {x : Int32} {off : Int} {t : Nat} (hd : decode y.2.1 pc = .ok (.ifCond .ge off, 3)) (ht : (pc : Int) + off = (t : Int)) (kt : 0 ≤ x → qX y d z cT sT t lv st h n ce sl Rp) (kf : ¬ 0 ≤ x → qX y d z cT sT (pc + 3) lv st h n ce sl Rp) : qX y d z cT sT pc lv (.int x :: st) h n ce sl Rp := fun p l e R s m args below meth c Q b0 b D dA C hr H locs ls hA hl => lv_if_ge C.1 C.2.1 hd ht (fun q => kt q p l e R s m args below meth c Q b0 b D dA C hr H locs ls hA hl) (fun q => kf q p l e R s m args below meth c Q b0 b D dA C hr H locs ls hA hl)
theorem qx_icmp_ge {a x : Int32} {off : Int} {t : Nat} (hd : decode y.2.1 pc = .ok (.if_icmp .ge off, 3)) (ht : (pc : Int) + off = (t : Int)) (kt : x ≤ a → qX y d z cT sT t lv st h n ce sl Rp) (kf : ¬ x ≤ a → qX y d z cT sT (pc + 3) lv st h n ce sl Rp) : qX y d z cT sT pc lv (.int x :: .int a :: st) h n ce sl Rp := fun p l e R s m args below meth c Q b0 b D dA C hr H locs ls hA hl => lv_icmp_ge C.1 C.2.1 hd ht (fun q => kt q p l e R s m args below meth c Q b0 b D dA C hr H locs ls hA hl) (fun q => kf q p l e R s m args below meth c Q b0 b D dA C hr H locs ls hA hl)
theorem qx_if_gt {x : Int32} {off : Int} {t : Nat} (hd : decode y.2.1 pc = .ok (.ifCond .gt off, 3)) (ht : (pc : Int) + off = (t : Int)) (kt : 0 < x → qX y d z cT sT t lv st h n ce sl Rp) (kf : ¬ 0 < x → qX y d z cT sT (pc + 3) lv st h n ce sl Rp) : qX y d z cT sT pc lv (.int x :: st) h n ce sl Rp := fun p l e R s m args below meth c Q b0 b D dA C hr H locs ls hA hl => lv_if_gt C.1 C.2.1 hd ht (fun q => kt q p l e R s m args below meth c Q b0 b D dA C hr H locs ls hA hl) (fun q => kf q p l e R s m args below meth c Q b0 b D dA C hr H locs ls hA hl)
theorem qx_icmp_gt {a x : Int32} {off : Int} {t : Nat} (hd : decode y.2.1 pc = .ok (.if_icmp .gt off, 3)) (ht : (pc : Int) + off = (t : Int)) (kt : x < a → qX y d z cT sT t lv st h n ce sl Rp) (kf : ¬ x < a → qX y d z cT sT (pc + 3) lv st h n ce sl Rp) : qX y d z cT sT pc lv (.int x :: .int a :: st) h n ce sl Rp := fun p l e R s m args below meth c Q b0 b D dA C hr H locs ls hA hl => lv_icmp_gt C.1 C.2.1 hd ht (fun q => kt q p l e R s m args below meth c Q b0 b D dA C hr H locs ls hA hl) (fun q => kf q p l e R s m args below meth c Q b0 b D dA C hr H locs ls hA hl)
theorem qx_if_le {x : Int32} {off : Int} {t : Nat} (hd : decode y.2.1 pc = .ok (.ifCond .le off, 3)) (ht : (pc : Int) + off = (t : Int)) (kt : x ≤ 0 → qX y d z cT sT t lv st h n ce sl Rp) (kf : ¬ x ≤ 0 → qX y d z cT sT (pc + 3) lv st h n ce sl Rp) : qX y d z cT sT pc lv (.int x :: st) h n ce sl Rp := fun p l e R s m args below meth c Q b0 b D dA C hr H locs ls hA hl => lv_if_le C.1 C.2.1 hd ht (fun q => kt q p l e R s m args below meth c Q b0 b D dA C hr H locs ls hA hl) (fun q => kf q p l e R s m args below meth c Q b0 b D dA C hr H locs ls hA hl)
theorem qx_icmp_le {a x : Int32} {off : Int} {t : Nat} (hd : decode y.2.1 pc = .ok (.if_icmp .le off, 3)) (ht : (pc : Int) + off = (t : Int)) (kt : a ≤ x → qX y d z cT sT t lv st h n ce sl Rp) (kf : ¬ a ≤ x → qX y d z cT sT (pc + 3) lv st h n ce sl Rp) : qX y d z cT sT pc lv (.int x :: .int a :: st) h n ce sl Rp := fun p l e R s m args below meth c Q b0 b D dA C hr H locs ls hA hl => lv_icmp_le C.1 C.2.1 hd ht (fun q => kt q p l e R s m args below meth c Q b0 b D dA C hr H locs ls hA hl) (fun q => kf q p l e R s m args below meth c Q b0 b D dA C hr H locs ls hA hl)
theorem qx_goto {off : Int} {t : Nat} (hd : decode y.2.1 pc = .ok (.goto off, 3)) (ht : (pc : Int) + off = (t : Int)) (k : qX y d z cT sT t lv st h n ce sl Rp) : qX y d z cT sT pc lv st h n ce sl Rp := fun p l e R s m args below meth c Q b0 b D dA C hr H locs ls hA hl => lv_goto C.1 C.2.1 hd ht (k p l e R s m args below meth c Q b0 b D dA C hr H locs ls hA hl)
theorem qx_tabIn {df lo hi : Int} {offs : Array Int} {len : Nat} {x : Int32} {off : Int} {t : Nat} (hd : decode y.2.1 pc = .ok (.tableswitch df lo hi offs, len)) (h1 : ¬ x.toInt < lo) (h2 : ¬ hi < x.toInt) (ho : offs[(x.toInt - lo).toNat]? = some off) (ht : (pc : Int) + off = (t : Int)) (k : qX y d z cT sT t lv st h n ce sl Rp) : qX y d z cT sT pc lv (.int x :: st) h n ce sl Rp := fun p l e R s m args below meth c Q b0 b D dA C hr H locs ls hA hl => lv_tableIn C.1 C.2.1 hd h1 h2 ho ht (k p l e R s m args below meth c Q b0 b D dA C hr H locs ls hA hl)
theorem qx_tabOut {df lo hi : Int} {offs : Array Int} {len : Nat} {x : Int32} {t : Nat} (hd : decode y.2.1 pc = .ok (.tableswitch df lo hi offs, len)) (h1 : x.toInt < lo ∨ hi < x.toInt) (ht : (pc : Int) + df = (t : Int)) (k : qX y d z cT sT t lv st h n ce sl Rp) : qX y d z cT sT pc lv (.int x :: st) h n ce sl Rp := fun p l e R s m args below meth c Q b0 b D dA C hr H locs ls hA hl => lv_tableOut C.1 C.2.1 hd h1 ht (k p l e R s m args below meth c Q b0 b D dA C hr H locs ls hA hl)
theorem qx_look {df : Int} {ps : Array (Int × Int)} {len : Nat} {x : Int32} {off : Int} {t : Nat} (hd : decode y.2.1 pc = .ok (.lookupswitch df ps, len)) (hp : (ps.toList.zip (ps.toList.drop 1)).all (fun (a, next) => a.1 < next.1) = true) (ho : Op.lookupswitch.offset ps.toList df x.toInt = off) (ht : (pc : Int) + off = (t : Int)) (k : qX y d z cT sT t lv st h n ce sl Rp) : qX y d z cT sT pc lv (.int x :: st) h n ce sl Rp := fun p l e R s m args below meth c Q b0 b D dA C hr H locs ls hA hl => lv_lookup C.1 C.2.1 hd hp ho ht (k p l e R s m args below meth c Q b0 b D dA C hr H locs ls hA hl)
theorem qx_lv {lv1 : List Value} (hs : ∀ (i : Nat) (v : Value), lv1[i]? = some v → v ≠ qdead → lv[i]? = some v) (k : qX y d z cT sT pc lv1 st h n ce sl Rp) : qX y d z cT sT pc lv st h n ce sl Rp := by
  intro p l e R s m args below meth c Q b0 b D dA C hr H locs ls hA hl
  refine k p l e R s m args below meth c Q b0 b D dA C hr H locs ls hA (qL.mono hl fun q hq => ?_)
  obtain ⟨v, h1, h2, h3⟩ := qlvs_of hq
  obtain ⟨j, x⟩ := q
  dsimp only at h3
  subst h3
  exact qlvs_in (hs j v h1 h2) h2
def qless : List Value → List Value → Prop
  | [], _ => True
  | a :: l, b :: m => (a = qdead ∨ a = b) ∧ qless l m
  | a :: l, [] => a = qdead ∧ qless l []
theorem qless_at : ∀ (l m : List Value), qless l m → ∀ (i : Nat) (v : Value), l[i]? = some v → v ≠ qdead → m[i]? = some v
  | [], _, _, i, v, h, _ => by simp at h
  | a :: l, b :: m, hq, i, v, h, hd => by
    cases i with
    | zero =>
      simp only [List.getElem?_cons_zero] at h ⊢
      cases h
      rcases hq.1 with q | q
      · exact absurd q hd
      · rw [q]
    | succ i =>
      simp only [List.getElem?_cons_succ] at h ⊢
      exact qless_at l m hq.2 i v h hd
  | a :: l, [], hq, i, v, h, hd => by
    cases i with
    | zero =>
      simp only [List.getElem?_cons_zero] at h
      cases h
      exact absurd hq.1 hd
    | succ i =>
      simp only [List.getElem?_cons_succ] at h
      have := qless_at l [] hq.2 i v h hd
      simp at this
theorem qx_less {lv1 : List Value} (hs : qless lv1 lv) (k : qX y d z cT sT pc lv1 st h n ce sl Rp) : qX y d z cT sT pc lv st h n ce sl Rp := qx_lv (qless_at _ _ hs) k
theorem qx_eq {pc1 : Nat} {lv1 st1 : List Value} {h1 : qH} (e1 : pc1 = pc) (e2 : lv1 = lv) (e3 : st1 = st) (e4 : h1 = h) (k : qX y d z cT sT pc1 lv1 st1 h1 n ce sl Rp) : qX y d z cT sT pc lv st h n ce sl Rp := by subst e1; subst e2; subst e3; subst e4; exact k
theorem qx_imp {Rp1 : Option Value → qH → Nat → Prop} (hi : ∀ v h n, Rp1 v h n → Rp v h n) (k : qX y d z cT sT pc lv st h n ce sl Rp1) : qX y d z cT sT pc lv st h n ce sl Rp := fun p l e R s m args below meth c Q b0 b D dA C hr H locs ls hA hl => k p l e R s m args below meth c Q b0 b D dA C (fun H locs ls pc v h n q => hr H locs ls pc v h n (hi v h n q)) H locs ls hA hl
theorem qx_ret (hd : decode y.2.1 pc = .ok (.return_, 1)) (hy : y.2.2.2 = none) (hc : ce ≤ cT) (hs : sl ≤ sT) (hR : Rp none h n) : qX y d z cT sT pc lv [] h n ce sl Rp := fun p l e R s m args below meth c Q b0 b D dA C hr H locs ls hA hl => W.widen hc hs (hr H locs ls pc none h n hR hA (Or.inl ⟨hy, hd, rfl⟩))
theorem qx_iret {v : Int32} {ty : FieldType} (hd : decode y.2.1 pc = .ok (.ireturn, 1)) (hy : y.2.2.2 = some ty) (hv : narrow ty (.int v) = .int v) (hc : ce ≤ cT) (hs : sl ≤ sT) (hR : Rp (some (.int v)) h n) : qX y d z cT sT pc lv [.int v] h n ce sl Rp := fun p l e R s m args below meth c Q b0 b D dA C hr H locs ls hA hl => W.widen hc hs (hr H locs ls pc (some (.int v)) h n hR hA (Or.inr (Or.inl ⟨v, ty, hy, hd, hv, rfl⟩)))
theorem qx_lret {v : Int64} (hd : decode y.2.1 pc = .ok (.lreturn, 1)) (hy : y.2.2.2 = some .long) (hc : ce ≤ cT) (hs : sl ≤ sT) (hR : Rp (some (.long v)) h n) : qX y d z cT sT pc lv [.long v] h n ce sl Rp := fun p l e R s m args below meth c Q b0 b D dA C hr H locs ls hA hl => W.widen hc hs (hr H locs ls pc (some (.long v)) h n hR hA (Or.inr (Or.inr (Or.inl ⟨v, hy, hd, rfl⟩))))
theorem qx_aret {v : Nat} {ty : FieldType} (hd : decode y.2.1 pc = .ok (.areturn, 1)) (hy : y.2.2.2 = some ty) (ht : (∃ n, ty = .object n) ∨ ∃ t, ty = .array t) (hc : ce ≤ cT) (hs : sl ≤ sT) (hR : Rp (some (.ref v)) h n) : qX y d z cT sT pc lv [.ref v] h n ce sl Rp := fun p l e R s m args below meth c Q b0 b D dA C hr H locs ls hA hl => W.widen hc hs (hr H locs ls pc (some (.ref v)) h n hR hA (Or.inr (Or.inr (Or.inr ⟨v, ty, hy, ht, hd, rfl⟩))))
end QX
/-! heap: fields, arrays, new cells -/
theorem q_vpV {g : Nat → Value} {N j : Nat} (hj : j < N) : vp_V ((List.range N).map g) j = g j := by
  unfold vp_V
  rw [List.getD_eq_getElem?_getD, List.getElem?_map, List.getElem?_range hj]
  rfl
theorem q_fat {g : Nat → Value} {N j : Nat} (hj : j < N) : ((List.range N).map g)[j]? = some (g j) := by
  rw [List.getElem?_map, List.getElem?_range hj]
  rfl
theorem qA.put {b0 : Nat} {D : va_G} {dA : Nat → ClassId} {h h' : qH} {n a k : Nat} {s : State} {H H' : Heap} {locs : List Loc} (hA : qA b0 D dA h n s H locs) (ha : a < n) (hc : va_at D vwCl (b0 + a, qE b0 dA h' a) H') (ho : ∀ j, j ≠ a → h'.1 j = h.1 j ∧ h'.2.1 j = h.2.1 j ∧ h'.2.2 j = h.2.2 j) (hz : H'.size = H.size) (hq : ∀ q : Nat, q ≠ b0 + a → H'[q]? = H[q]?) : qA b0 D dA h' n s H' (locs ++ [⟨b0 + a, k⟩]) := by
  refine ⟨?_, hz.trans hA.2.1, va_S.put hA.2.2 hz hq (Nat.le_add_right _ _)⟩
  rw [← qW_set (h := h) rfl ho]
  exact va_P.set hA.1 qW_D (qW_at ha) hc hq
/-- a field's name in a class file: own's pool entry idx is field f of class number ci; fin: it is final -/
def qFl (own : String) (idx ci f : Nat) (fin : Bool) : Prop := f < qN ci ∧ ci < 20 ∧ ∃ (C : String) (T : u_T), vwCl[ci]? = some (C, T, qN ci) ∧ (∀ w ∈ u_ws C T (qN ci), w ∈ qGW) ∧ (∀ k, k < qN ci → parseFieldDescriptor (T k).2.2.1 = some (qFT ci k)) ∧ (∀ a, a < qN ci → ∀ b, b < qN ci → a ≠ b → (T a).2.1 ≠ (T b).2.1) ∧ (T f).1 = C ∧ (T f).2.2.2 = fin ∧ (Cond.fieldLink own idx C (T f).2.1 (T f).2.2.1 ∈ qGW ∨ ∃ host, (own, idx, C, (T f).2.1, (T f).2.2.1, host) ∈ qNF)
def qFlI (own : String) (idx ci f : Nat) (fin : Bool) : Prop := qFl own idx ci f fin ∧ ∀ b0 i l r, qV b0 (qFT ci f) i l r = .int i
def qFlL (own : String) (idx ci f : Nat) (fin : Bool) : Prop := qFl own idx ci f fin ∧ qFT ci f = .long
def qFlR (own : String) (idx ci f : Nat) (fin : Bool) : Prop := qFl own idx ci f fin ∧ (∀ b0 i l r, qV b0 (qFT ci f) i l r = va_rf (r.map (fun x => b0 + x))) ∧ ∀ x, narrow (qFT ci f) (.ref x) = .ref x ∧ fits (qFT ci f) (.ref x) = true
/-- a final field, put by its own class's constructor -/
def qFlF (own : String) (idx ci f : Nat) : Prop := f < qN ci ∧ ci < 20 ∧ ∃ (T : u_T), vwCl[ci]? = some (own, T, qN ci) ∧ (∀ w ∈ u_ws own T (qN ci), w ∈ qGW) ∧ (∀ k, k < qN ci → parseFieldDescriptor (T k).2.2.1 = some (qFT ci k)) ∧ (∀ a, a < qN ci → ∀ b, b < qN ci → a ≠ b → (T a).2.1 ≠ (T b).2.1) ∧ (T f).1 = own ∧ (T f).2.2.2 = true ∧ Cond.fieldLink own idx own (T f).2.1 (T f).2.2.1 ∈ qGW
def qFlRF (own : String) (idx ci f : Nat) : Prop := qFlF own idx ci f ∧ (∀ b0 i l r, qV b0 (qFT ci f) i l r = va_rf (r.map (fun x => b0 + x))) ∧ ∀ x, narrow (qFT ci f) (.ref x) = .ref x ∧ fits (qFT ci f) (.ref x) = true
section QY
variable {y : qMi} {d : Nat} {z : Option (Nat × (Nat → Int32))} {cT sT pc : Nat} {lv st : List Value} {h : qH} {n ce sl : Nat} {Rp : Option Value → qH → Nat → Prop}
theorem qx_get {a ci f x idx : Nat} {fin : Bool} {v : Value} (hd : decode y.2.1 pc = .ok (.getfield idx, 3)) (hf : qFl y.1.cls idx ci f fin) (hp : qPl a = (ci, x)) (ha : Nat.blt a n = true) (hv : ∀ b0 b, qV b0 (qFT ci f) (h.1 a f) (h.2.1 a f) (h.2.2 a f) = qrel b0 b v)
    (k : qX y d z cT sT (pc + 3) lv (v :: st) h n ce sl Rp) : qX y d z cT sT pc lv (.ref a :: st) h n ce sl Rp := by
  intro p l e R s m args below meth c Q b0 b D dA C hr H locs ls hA hl
  obtain ⟨hfN, hc20, C0, T, hc, hin, hty, hnm, hC, hfi, hlk⟩ := hf
  have he := qW_at (b0 := b0) (dA := dA) (h := h) (Nat.blt_eq.mp ha)
  rw [qE_obj hp hc20] at he
  have hfs := (q_fat (g := fun f => qV b0 (qFT ci f) (h.1 a f) (h.2.1 a f) (h.2.2 a f)) hfN).trans (congrArg some (hv b0 b))
  have hsame : ∀ x, s.fieldFound? (T f).1 (T f).2.1 (T f).2.2.1 = some x → s.fieldFound? C0 (T f).2.1 (T f).2.2.1 = some x := fun x q => by rw [hC] at q; exact q
  have kk := k p l e R s m args below meth c Q b0 b D dA C hr H locs ls hA hl
  rcases hlk with hlk | ⟨host, hlk⟩
  · exact va_get C.1 C.2.1 C.2.2.2.2.1 hin C.2.2.2.1 C.2.2.2.2.2.1.1 hA.1 a he hc f hfN (C.2.2.2.2.1 _ hlk) hsame hfs hd kk
  · exact va_getN C.1 C.2.1 C.2.2.2.2.1 hin C.2.2.2.1 C.2.2.2.2.2.1.1 hA.1 a he hc f hfN (va_Nw.use rfl (C.2.2.2.2.2.1.2.1 _ hlk)) hsame hfs hd kk
theorem qx_getI {a ci f x idx : Nat} {fin : Bool} {v : Int32} (hd : decode y.2.1 pc = .ok (.getfield idx, 3)) (hf : qFlI y.1.cls idx ci f fin) (hp : qPl a = (ci, x)) (ha : Nat.blt a n = true) (hv : h.1 a f = v)
    (k : qX y d z cT sT (pc + 3) lv (.int v :: st) h n ce sl Rp) : qX y d z cT sT pc lv (.ref a :: st) h n ce sl Rp := qx_get hd hf.1 hp ha (fun b0 b => by rw [hf.2, hv]; rfl) k
theorem qx_getL {a ci f x idx : Nat} {fin : Bool} {v : Int64} (hd : decode y.2.1 pc = .ok (.getfield idx, 3)) (hf : qFlL y.1.cls idx ci f fin) (hp : qPl a = (ci, x)) (ha : Nat.blt a n = true) (hv : h.2.1 a f = v)
    (k : qX y d z cT sT (pc + 3) lv (.long v :: st) h n ce sl Rp) : qX y d z cT sT pc lv (.ref a :: st) h n ce sl Rp := qx_get hd hf.1 hp ha (fun b0 b => by rw [hf.2, hv]; rfl) k
theorem qx_getR {a ci f x idx r : Nat} {fin : Bool} (hd : decode y.2.1 pc = .ok (.getfield idx, 3)) (hf : qFlR y.1.cls idx ci f fin) (hp : qPl a = (ci, x)) (ha : Nat.blt a n = true) (hv : h.2.2 a f = some r)
    (k : qX y d z cT sT (pc + 3) lv (.ref r :: st) h n ce sl Rp) : qX y d z cT sT pc lv (.ref a :: st) h n ce sl Rp := qx_get hd hf.1 hp ha (fun b0 b => by rw [hf.2.1, hv]; rfl) k
/-- a field is written -/
theorem qx_put {a ci f x idx : Nat} {h' : qH} {v : Value} (hd : decode y.2.1 pc = .ok (.putfield idx, 3)) (hf : qFl y.1.cls idx ci f false) (hp : qPl a = (ci, x)) (ha : Nat.blt a n = true)
    (hn : ∀ b0 b, narrow (qFT ci f) (qrel b0 b v) = qrel b0 b v ∧ fits (qFT ci f) (qrel b0 b v) = true) (ho : ∀ j, j ≠ a → h'.1 j = h.1 j ∧ h'.2.1 j = h.2.1 j ∧ h'.2.2 j = h.2.2 j)
    (hv : ∀ b0 b, qV b0 (qFT ci f) (h'.1 a f) (h'.2.1 a f) (h'.2.2 a f) = qrel b0 b v) (hw : ∀ j, j ≠ f → h'.1 a j = h.1 a j ∧ h'.2.1 a j = h.2.1 a j ∧ h'.2.2 a j = h.2.2 a j)
    (k : qX y d z cT sT (pc + 3) lv st h' n ce sl Rp) : qX y d z cT sT pc lv (v :: .ref a :: st) h n ce sl Rp := by
  intro p l e R s m args below meth c Q b0 b D dA C hr H locs ls hA hl
  obtain ⟨hfN, hc20, C0, T, hc, hin, hty, hnm, hC, hfi, hlk⟩ := hf
  have ha' := Nat.blt_eq.mp ha
  have he := qW_at (b0 := b0) (dA := dA) (h := h) ha'
  rw [qE_obj hp hc20] at he
  have hts := C.2.2.2.2.1
  have hap := va_apart (own := y.1.cls) hts hin (qFT ci) hty hnm C.2.2.2.2.2.1.1 hc
  have hsame : ∀ x, s.fieldFound? (T f).1 (T f).2.1 (T f).2.2.1 = some x → s.fieldFound? C0 (T f).2.1 (T f).2.2.1 = some x := fun x q => by rw [hC] at q; exact q
  obtain ⟨r, h1, cell, q1, q2, q3, q4⟩ := hA.1 a _ he
  have hr' : r = (C0, T, qN ci) := Option.some.inj (h1.symm.trans hc)
  subst hr'
  obtain ⟨hSl, hfc, kC, hkC, hkind⟩ := C.2.2.2.2.2.1.1.1 ci _ hc
  obtain ⟨cf, kf, fi, fd, hi, hsl⟩ := hSl f hfN
  have hlay := hts _ (hin _ (u_in_lay hfN))
  unfold u_lay at hlay
  rw [if_neg (by rw [hfi]; decide)] at hlay
  have hst := (u_facts hfc hkC (u_lays hts hin hfN) hi).1
  have h6 := u_store hfc hkC hkind hlay hi (hty f hfN) (hn b0 b).1 (hn b0 b).2
  have fin : ∀ H' : Heap, H'[b0 + a]? = some (cell.setSlot fd.slot (qrel b0 b v)) → H'.size = H.size → (∀ q : Nat, q ≠ b0 + a → H'[q]? = H[q]?) → qA b0 D dA h' n s H' (locs ++ [⟨b0 + a, fd.slot⟩]) := by
    intro H' e1 e2 e3
    refine hA.put ha' ?_ ho e2 e3
    rw [qE_obj hp hc20]
    rw [hsl] at e1
    refine ⟨_, hc, t_OB.to (V := updV (vp_V ((List.range (qN ci)).map (fun f => qV b0 (qFT ci f) (h.1 a f) (h.2.1 a f) (h.2.2 a f)))) f (qrel b0 b v)) ⟨_, e1, q2, q3, t_set q4 hap hfN (qrel b0 b v)⟩ (fun j hj => ?_)⟩
    rw [q_vpV hj]
    by_cases hjf : j = f
    · subst hjf
      simp only [updV, if_true]
      exact (hv b0 b).symm
    · simp only [updV, if_neg hjf]
      rw [q_vpV hj]
      obtain ⟨w1, w2, w3⟩ := hw j hjf
      rw [w1, w2, w3]
  rcases hlk with hlk | ⟨host, hlk⟩
  · exact W.putK C.1 C.2.1 (f := fd) ⟨C.2.2.2.1, hts _ hlk, ⟨_, _, _, hsame _ hi⟩, hst⟩ (by rw [q2]; exact h6) q1 q3 (by rw [hsl]; exact k2_hasslot (q4 f hfN)) rfl rfl hd fun H' e1 e2 e3 => k p l e R s m args below meth c Q b0 b D dA C hr H' _ ls (fin H' e1 e2 e3) hl
  · exact va_WputK C.1 C.2.1 (f := fd) C.2.2.2.1 (va_Nw.use rfl (C.2.2.2.2.2.1.2.1 _ hlk)) (hsame _ hi) hst (by rw [q2]; exact h6) q1 q3 (by rw [hsl]; exact k2_hasslot (q4 f hfN)) rfl rfl hd fun H' e1 e2 e3 => k p l e R s m args below meth c Q b0 b D dA C hr H' _ ls (fin H' e1 e2 e3) hl
theorem qx_putF {a ci f x idx : Nat} {h' : qH} {v : Value} (hd : decode y.2.1 pc = .ok (.putfield idx, 3)) (hf : qFlF y.1.cls idx ci f) (hy : y.1.name = "<init>") (hp : qPl a = (ci, x)) (ha : Nat.blt a n = true)
    (hn : ∀ b0 b, narrow (qFT ci f) (qrel b0 b v) = qrel b0 b v ∧ fits (qFT ci f) (qrel b0 b v) = true) (ho : ∀ j, j ≠ a → h'.1 j = h.1 j ∧ h'.2.1 j = h.2.1 j ∧ h'.2.2 j = h.2.2 j)
    (hv : ∀ b0 b, qV b0 (qFT ci f) (h'.1 a f) (h'.2.1 a f) (h'.2.2 a f) = qrel b0 b v) (hw : ∀ j, j ≠ f → h'.1 a j = h.1 a j ∧ h'.2.1 a j = h.2.1 a j ∧ h'.2.2 a j = h.2.2 a j)
    (k : qX y d z cT sT (pc + 3) lv st h' n ce sl Rp) : qX y d z cT sT pc lv (v :: .ref a :: st) h n ce sl Rp := by
  intro p l e R s m args below meth c Q b0 b D dA C hr H locs ls hA hl
  obtain ⟨hfN, hc20, T, hc, hin, hty, hnm, hC, hfi, hlk⟩ := hf
  have ha' := Nat.blt_eq.mp ha
  have he := qW_at (b0 := b0) (dA := dA) (h := h) ha'
  rw [qE_obj hp hc20] at he
  have hts := C.2.2.2.2.1
  have hap := va_apart (own := y.1.cls) hts hin (qFT ci) hty hnm C.2.2.2.2.2.1.1 hc
  have hsame : ∀ x, s.fieldFound? (T f).1 (T f).2.1 (T f).2.2.1 = some x → s.fieldFound? y.1.cls (T f).2.1 (T f).2.2.1 = some x := fun x q => by rw [hC] at q; exact q
  obtain ⟨r, h1, cell, q1, q2, q3, q4⟩ := hA.1 a _ he
  have hr' : r = (y.1.cls, T, qN ci) := Option.some.inj (h1.symm.trans hc)
  subst hr'
  obtain ⟨hSl, hfc, kC, hkC, hkind⟩ := C.2.2.2.2.2.1.1.1 ci _ hc
  obtain ⟨cf, kf, fi, fd, hi, hsl⟩ := hSl f hfN
  have hlay := hts _ (hin _ (u_in_lay hfN))
  unfold u_lay at hlay
  rw [if_pos hfi] at hlay
  have hst := (u_facts hfc hkC (u_lays hts hin hfN) hi).1
  have hcf : m.cls = cf := by
    obtain ⟨_, _, c', _, _, _, -, -, hf', -, -, -, hown2, -⟩ := Cond.laysFinal_spec hlay
    have e1 : c' = cf := by have := hi.symm.trans hf'; simp at this; exact this.1.symm
    rw [hC] at hown2
    rw [← e1]; exact Option.some.inj (C.2.2.2.1.symm.trans hown2)
  have h6 := u_fits hfc hkC hkind (Or.inr hlay) hi (hty f hfN) (hn b0 b).1 (hn b0 b).2
  have fin : ∀ H' : Heap, H'[b0 + a]? = some (cell.setSlot fd.slot (qrel b0 b v)) → H'.size = H.size → (∀ q : Nat, q ≠ b0 + a → H'[q]? = H[q]?) → qA b0 D dA h' n s H' (locs ++ [⟨b0 + a, fd.slot⟩]) := by
    intro H' e1 e2 e3
    refine hA.put ha' ?_ ho e2 e3
    rw [qE_obj hp hc20]
    rw [hsl] at e1
    refine ⟨_, hc, t_OB.to (V := updV (vp_V ((List.range (qN ci)).map (fun f => qV b0 (qFT ci f) (h.1 a f) (h.2.1 a f) (h.2.2 a f)))) f (qrel b0 b v)) ⟨_, e1, q2, q3, t_set q4 hap hfN (qrel b0 b v)⟩ (fun j hj => ?_)⟩
    rw [q_vpV hj]
    by_cases hjf : j = f
    · subst hjf
      simp only [updV, if_true]
      exact (hv b0 b).symm
    · simp only [updV, if_neg hjf]
      rw [q_vpV hj]
      obtain ⟨w1, w2, w3⟩ := hw j hjf
      rw [w1, w2, w3]
  exact W.putFinK C.1 C.2.1 C.2.2.2.1 (hts _ hlk) (hsame _ hi) hst hcf (C.2.2.2.2.2.2.2.2.1.trans hy) (by rw [q2]; exact h6) q1 q3 (by rw [hsl]; exact k2_hasslot (q4 f hfN)) rfl rfl hd fun H' e1 e2 e3 => k p l e R s m args below meth c Q b0 b D dA C hr H' _ ls (fin H' e1 e2 e3) hl
theorem qx_putI {a ci f x idx : Nat} {v : Int32} (hd : decode y.2.1 pc = .ok (.putfield idx, 3)) (hf : qFlI y.1.cls idx ci f false) (hp : qPl a = (ci, x)) (ha : Nat.blt a n = true) (hn : narrow (qFT ci f) (.int v) = .int v ∧ fits (qFT ci f) (.int v) = true)
    (k : qX y d z cT sT (pc + 3) lv st (qpI h a f v) n ce sl Rp) : qX y d z cT sT pc lv (.int v :: .ref a :: st) h n ce sl Rp :=
  qx_put (h' := qpI h a f v) hd hf.1 hp ha (fun _ _ => hn) (qpI_o h a f v) (fun b0 b => by rw [hf.2, qpI_1, qus]; rfl) (fun j hj => ⟨by rw [qpI_1, qun hj], rfl, rfl⟩) k
theorem qx_putL {a ci f x idx : Nat} {v : Int64} (hd : decode y.2.1 pc = .ok (.putfield idx, 3)) (hf : qFlL y.1.cls idx ci f false) (hp : qPl a = (ci, x)) (ha : Nat.blt a n = true)
    (k : qX y d z cT sT (pc + 3) lv st (qpL h a f v) n ce sl Rp) : qX y d z cT sT pc lv (.long v :: .ref a :: st) h n ce sl Rp :=
  qx_put (h' := qpL h a f v) hd hf.1 hp ha (fun _ _ => by rw [hf.2]; exact ⟨rfl, rfl⟩) (qpL_o h a f v) (fun b0 b => by rw [hf.2, qpL_1, qus]; rfl) (fun j hj => ⟨rfl, by rw [qpL_1, qun hj], rfl⟩) k
theorem qx_putR {a ci f x idx r : Nat} (hd : decode y.2.1 pc = .ok (.putfield idx, 3)) (hf : qFlR y.1.cls idx ci f false) (hp : qPl a = (ci, x)) (ha : Nat.blt a n = true)
    (k : qX y d z cT sT (pc + 3) lv st (qpR h a f (some r)) n ce sl Rp) : qX y d z cT sT pc lv (.ref r :: .ref a :: st) h n ce sl Rp :=
  qx_put (h' := qpR h a f (some r)) hd hf.1 hp ha (fun b0 _ => hf.2.2 (b0 + r)) (qpR_o h a f (some r)) (fun b0 b => by rw [hf.2.1, qpR_1, qus]; rfl) (fun j hj => ⟨rfl, rfl, by rw [qpR_1, qun hj]⟩) k
theorem qx_putRF {a ci f x idx r : Nat} (hd : decode y.2.1 pc = .ok (.putfield idx, 3)) (hf : qFlRF y.1.cls idx ci f) (hy : y.1.name = "<init>") (hp : qPl a = (ci, x)) (ha : Nat.blt a n = true)
    (k : qX y d z cT sT (pc + 3) lv st (qpR h a f (some r)) n ce sl Rp) : qX y d z cT sT pc lv (.ref r :: .ref a :: st) h n ce sl Rp :=
  qx_putF (h' := qpR h a f (some r)) hd hf.1 hy hp ha (fun b0 _ => hf.2.2 (b0 + r)) (qpR_o h a f (some r)) (fun b0 b => by rw [hf.2.1, qpR_1, qus]; rfl) (fun j hj => ⟨rfl, rfl, by rw [qpR_1, qun hj]⟩) k
end QY
/-! arrays -/
section QZ
variable {y : qMi} {d : Nat} {z : Option (Nat × (Nat → Int32))} {cT sT pc : Nat} {lv st : List Value} {h : qH} {n ce sl : Nat} {Rp : Option Value → qH → Nat → Prop}
theorem q_in {i : Int32} {j N : Nat} (hi : i = nI j) (hj : j < N) (hN : N < 2 ^ 31) : vp_in i N ∧ i.toNatClampNeg = j := by
  subst hi
  exact ⟨vp_in_nI hj hN, nI_clamp (Nat.lt_trans hj hN)⟩
theorem qx_iald {a N j : Nat} {i v : Int32} (hd : decode y.2.1 pc = .ok (.iaload, 1)) (hp : qPl a = (20, N)) (ha : Nat.blt a n = true) (hN : Nat.blt N 1000 = true) (hi : i = nI j) (hj : j < N) (hv : h.1 a j = v)
    (k : qX y d z cT sT (pc + 1) lv (.int v :: st) h n ce sl Rp) : qX y d z cT sT pc lv (.int i :: .ref a :: st) h n ce sl Rp := by
  intro p l e R s m args below meth c Q b0 b D dA C hr H locs ls hA hl
  have hN' := Nat.blt_eq.mp hN
  obtain ⟨h1, h2⟩ := q_in hi hj (by omega)
  have he := qW_at (b0 := b0) (dA := dA) (h := h) (Nat.blt_eq.mp ha)
  rw [qE_int hp] at he
  subst hv
  refine va_iald C.1 C.2.1 C.2.2.2.2.2.1.1 hA.1 a 0 he rfl h1 hd ?_
  rw [h2]
  exact k p l e R s m args below meth c Q b0 b D dA C hr H locs ls hA hl
theorem qx_zald {a N j : Nat} {i v : Int32} (hd : decode y.2.1 pc = .ok (.baload, 1)) (hp : qPl a = (22, N)) (ha : Nat.blt a n = true) (hN : Nat.blt N 1000 = true) (hi : i = nI j) (hj : j < N) (hv : h.1 a j = v)
    (k : qX y d z cT sT (pc + 1) lv (.int v :: st) h n ce sl Rp) : qX y d z cT sT pc lv (.int i :: .ref a :: st) h n ce sl Rp := by
  intro p l e R s m args below meth c Q b0 b D dA C hr H locs ls hA hl
  have hN' := Nat.blt_eq.mp hN
  obtain ⟨h1, h2⟩ := q_in hi hj (by omega)
  have he := qW_at (b0 := b0) (dA := dA) (h := h) (Nat.blt_eq.mp ha)
  rw [qE_bool hp] at he
  subst hv
  refine va_zald C.1 C.2.1 C.2.2.2.2.2.1.1 hA.1 a 2 he rfl h1 hd ?_
  rw [h2]
  exact k p l e R s m args below meth c Q b0 b D dA C hr H locs ls hA hl
theorem qx_lald {a N j : Nat} {i : Int32} {v : Int64} (hd : decode y.2.1 pc = .ok (.laload, 1)) (hp : qPl a = (21, N)) (ha : Nat.blt a n = true) (hN : Nat.blt N 1000 = true) (hi : i = nI j) (hj : j < N) (hv : h.2.1 a j = v)
    (k : qX y d z cT sT (pc + 1) lv (.long v :: st) h n ce sl Rp) : qX y d z cT sT pc lv (.int i :: .ref a :: st) h n ce sl Rp := by
  intro p l e R s m args below meth c Q b0 b D dA C hr H locs ls hA hl
  have hN' := Nat.blt_eq.mp hN
  obtain ⟨h1, h2⟩ := q_in hi hj (by omega)
  have he := qW_at (b0 := b0) (dA := dA) (h := h) (Nat.blt_eq.mp ha)
  rw [qE_long hp] at he
  subst hv
  refine va_lald C.1 C.2.1 C.2.2.2.2.2.1.1 hA.1 a 1 he rfl h1 hd ?_
  rw [h2]
  exact k p l e R s m args below meth c Q b0 b D dA C hr H locs ls hA hl
theorem qx_aald {a N j t r : Nat} {C0 : String} {i : Int32} (hd : decode y.2.1 pc = .ok (.aaload, 1)) (hp : qPl a = (23 + t, N)) (ht : ∀ dA : Nat → ClassId, (qTys dA)[3 + t]? = some (dA (3 + t), .object C0)) (ha : Nat.blt a n = true) (hN : Nat.blt N 1000 = true) (hi : i = nI j) (hj : j < N) (hv : h.2.2 a j = some r)
    (k : qX y d z cT sT (pc + 1) lv (.ref r :: st) h n ce sl Rp) : qX y d z cT sT pc lv (.int i :: .ref a :: st) h n ce sl Rp := by
  intro p l e R s m args below meth c Q b0 b D dA C hr H locs ls hA hl
  have hN' := Nat.blt_eq.mp hN
  obtain ⟨h1, h2⟩ := q_in hi hj (by omega)
  have he := qW_at (b0 := b0) (dA := dA) (h := h) (Nat.blt_eq.mp ha)
  rw [qE_ref hp] at he
  refine va_aldq C.1 C.2.1 C.2.2.2.2.2.1.1 hA.1 a (3 + t) he (ht dA) h1 hd ?_
  rw [h2, hv]
  exact k p l e R s m args below meth c Q b0 b D dA C hr H locs ls hA hl
theorem qx_alenI {a N : Nat} {v : Int32} (hd : decode y.2.1 pc = .ok (.arraylength, 1)) (hp : qPl a = (20, N)) (ha : Nat.blt a n = true) (hv : Int32.ofNat N = v)
    (k : qX y d z cT sT (pc + 1) lv (.int v :: st) h n ce sl Rp) : qX y d z cT sT pc lv (.ref a :: st) h n ce sl Rp := by
  intro p l e R s m args below meth c Q b0 b D dA C hr H locs ls hA hl
  have he := qW_at (b0 := b0) (dA := dA) (h := h) (Nat.blt_eq.mp ha)
  rw [qE_int hp] at he
  exact va_alen C.1 C.2.1 C.2.2.2.2.2.1.1 hA.1 a 0 he rfl hv hd (k p l e R s m args below meth c Q b0 b D dA C hr H locs ls hA hl)
theorem qx_alenR {a N t : Nat} {C0 : String} {v : Int32} (hd : decode y.2.1 pc = .ok (.arraylength, 1)) (hp : qPl a = (23 + t, N)) (ht : ∀ dA : Nat → ClassId, (qTys dA)[3 + t]? = some (dA (3 + t), .object C0)) (ha : Nat.blt a n = true) (hv : Int32.ofNat N = v)
    (k : qX y d z cT sT (pc + 1) lv (.int v :: st) h n ce sl Rp) : qX y d z cT sT pc lv (.ref a :: st) h n ce sl Rp := by
  intro p l e R s m args below meth c Q b0 b D dA C hr H locs ls hA hl
  have he := qW_at (b0 := b0) (dA := dA) (h := h) (Nat.blt_eq.mp ha)
  rw [qE_ref hp] at he
  exact va_alen C.1 C.2.1 C.2.2.2.2.2.1.1 hA.1 a (3 + t) he (ht dA) hv hd (k p l e R s m args below meth c Q b0 b D dA C hr H locs ls hA hl)
theorem qx_iast {a N j : Nat} {i v : Int32} (hd : decode y.2.1 pc = .ok (.iastore, 1)) (hp : qPl a = (20, N)) (ha : Nat.blt a n = true) (hN : Nat.blt N 1000 = true) (hi : i = nI j) (hj : j < N)
    (k : qX y d z cT sT (pc + 1) lv st (qpI h a j v) n ce sl Rp) : qX y d z cT sT pc lv (.int v :: .int i :: .ref a :: st) h n ce sl Rp := by
  intro p l e R s m args below meth c Q b0 b D dA C hr H locs ls hA hl
  have hN' := Nat.blt_eq.mp hN
  have ha' := Nat.blt_eq.mp ha
  obtain ⟨h1, h2⟩ := q_in hi hj (by omega)
  have he := qW_at (b0 := b0) (dA := dA) (h := h) ha'
  rw [qE_int hp] at he
  refine W.iast C.1 C.2.1 (hA.1 a _ he) ((C.2.2.2.2.2.1.1.2 0 _ rfl).1 N (fun j => .int (h.1 a j))) (fun q => by cases q) (by show ¬ (i < 0 ∨ (arrV _ _ _).slots.size ≤ _); rw [arrV_size]; exact h1) rfl rfl hd fun H1 e1 e2 e3 => ?_
  rw [h2] at e1 ⊢
  refine k p l e R s m args below meth c Q b0 b D dA C hr H1 _ ls (hA.put (h' := qpI h a j v) ha' ?_ (qpI_o h a j v) e2 e3) hl
  rw [qE_int hp, qpI_1]
  show H1[b0 + a]? = some (vp_cell _ _)
  rw [e1]
  rw [vp_cell_i, vp_cell_i, arrV_store]
  congr 2
  funext q
  by_cases hq : q = j
  · subst hq
    simp [updV, va_up]
  · simp [updV, va_up, hq]
theorem qx_zast {a N j : Nat} {i v : Int32} (hd : decode y.2.1 pc = .ok (.bastore, 1)) (hp : qPl a = (22, N)) (ha : Nat.blt a n = true) (hN : Nat.blt N 1000 = true) (hi : i = nI j) (hj : j < N) (hv : narrow .boolean (.int v) = .int v)
    (k : qX y d z cT sT (pc + 1) lv st (qpI h a j v) n ce sl Rp) : qX y d z cT sT pc lv (.int v :: .int i :: .ref a :: st) h n ce sl Rp := by
  intro p l e R s m args below meth c Q b0 b D dA C hr H locs ls hA hl
  have hN' := Nat.blt_eq.mp hN
  have ha' := Nat.blt_eq.mp ha
  obtain ⟨h1, h2⟩ := q_in hi hj (by omega)
  have he := qW_at (b0 := b0) (dA := dA) (h := h) ha'
  rw [qE_bool hp] at he
  refine W.zast C.1 C.2.1 (hA.1 a _ he) ((C.2.2.2.2.2.1.1.2 2 _ rfl).1 N (fun j => .int (h.1 a j))) (fun q => by cases q) (by show ¬ (i < 0 ∨ (arrV _ _ _).slots.size ≤ _); rw [arrV_size]; exact h1) rfl rfl hd fun H1 e1 e2 e3 => ?_
  rw [h2] at e1 ⊢
  rw [hv] at e1
  refine k p l e R s m args below meth c Q b0 b D dA C hr H1 _ ls (hA.put (h' := qpI h a j v) ha' ?_ (qpI_o h a j v) e2 e3) hl
  rw [qE_bool hp, qpI_1]
  show H1[b0 + a]? = some (vp_cell _ _)
  rw [e1]
  rw [vp_cell_i, vp_cell_i, arrV_store]
  congr 2
  funext q
  by_cases hq : q = j
  · subst hq
    simp [updV, va_up]
  · simp [updV, va_up, hq]
theorem qx_last {a N j : Nat} {i : Int32} {v : Int64} (hd : decode y.2.1 pc = .ok (.lastore, 1)) (hp : qPl a = (21, N)) (ha : Nat.blt a n = true) (hN : Nat.blt N 1000 = true) (hi : i = nI j) (hj : j < N)
    (k : qX y d z cT sT (pc + 1) lv st (qpL h a j v) n ce sl Rp) : qX y d z cT sT pc lv (.long v :: .int i :: .ref a :: st) h n ce sl Rp := by
  intro p l e R s m args below meth c Q b0 b D dA C hr H locs ls hA hl
  have hN' := Nat.blt_eq.mp hN
  have ha' := Nat.blt_eq.mp ha
  obtain ⟨h1, h2⟩ := q_in hi hj (by omega)
  have he := qW_at (b0 := b0) (dA := dA) (h := h) ha'
  rw [qE_long hp] at he
  refine W.last C.1 C.2.1 (hA.1 a _ he) ((C.2.2.2.2.2.1.1.2 1 _ rfl).1 N (fun j => .long (h.2.1 a j))) (fun q => by cases q) (by show ¬ (i < 0 ∨ (arrV _ _ _).slots.size ≤ _); rw [arrV_size]; exact h1) rfl rfl hd fun H1 e1 e2 e3 => ?_
  rw [h2] at e1 ⊢
  refine k p l e R s m args below meth c Q b0 b D dA C hr H1 _ ls (hA.put (h' := qpL h a j v) ha' ?_ (qpL_o h a j v) e2 e3) hl
  rw [qE_long hp, qpL_1]
  show H1[b0 + a]? = some (vp_cell _ _)
  rw [e1]
  rw [vp_cell_l, vp_cell_l, arrV_store]
  congr 2
  funext q
  by_cases hq : q = j
  · subst hq
    simp [updV, va_up]
  · simp [updV, va_up, hq]
/-- a reference into an array of them: the array's component is the class of the object -/
theorem qx_aast {a N j t r ci x : Nat} {C0 : String} {T0 : u_T} {N0 : Nat} {i : Int32} (hd : decode y.2.1 pc = .ok (.aastore, 1)) (hp : qPl a = (23 + t, N)) (ht : ∀ dA : Nat → ClassId, (qTys dA)[3 + t]? = some (dA (3 + t), .object C0)) (ha : Nat.blt a n = true) (hN : Nat.blt N 1000 = true) (hi : i = nI j) (hj : j < N)
    (hr0 : qPl r = (ci, x)) (hci : ci < 20) (hc : vwCl[ci]? = some (C0, T0, N0)) (hrn : Nat.blt r n = true)
    (k : qX y d z cT sT (pc + 1) lv st (qpR h a j (some r)) n ce sl Rp) : qX y d z cT sT pc lv (.ref r :: .int i :: .ref a :: st) h n ce sl Rp := by
  intro p l e R s m args below meth c Q b0 b D dA C hr H locs ls hA hl
  have hN' := Nat.blt_eq.mp hN
  have ha' := Nat.blt_eq.mp ha
  obtain ⟨h1, h2⟩ := q_in hi hj (by omega)
  have he := qW_at (b0 := b0) (dA := dA) (h := h) ha'
  rw [qE_ref hp] at he
  have hv := qW_at (b0 := b0) (dA := dA) (h := h) (Nat.blt_eq.mp hrn)
  rw [qE_obj hr0 hci] at hv
  have hlt : i.toNatClampNeg < N := Nat.not_le.mp fun q => h1 (Or.inr q)
  have h0 : ¬ i < 0 := fun q => h1 (Or.inl q)
  obtain ⟨r', hr', cellV, g1, g2, g3, -⟩ := hA.1 r _ hv
  have hcls := (C.2.2.2.2.2.1.1.1 ci _ hc).2
  obtain ⟨kA, comp, k1, k2, k3, -⟩ := (C.2.2.2.2.2.1.1.2 (3 + t) _ (ht dA)).2
  have hcomp : comp = D.1 ci := Option.some.inj (k3.symm.trans hcls.1)
  subst hcomp
  obtain ⟨kC, hkC, -⟩ := hcls.2
  refine W.aast C.1 C.2.1 (hA.1 a _ he) (fun q h => by cases h) (fun h => by cases h) k1 k2 rfl hkC ⟨h0, by show _ < (arrV _ _ _).slots.size; rw [arrV_size]; exact hlt⟩ g1 (fun q h => by rw [g3] at h; cases h) (by rw [g2]; exact hkC) (by rw [g2]; exact va_assign hcls) rfl rfl hd fun H1 e1 e2 e3 => ?_
  rw [h2] at e1 ⊢
  refine k p l e R s m args below meth c Q b0 b D dA C hr H1 _ ls (hA.put (h' := qpR h a j (some r)) ha' ?_ (qpR_o h a j (some r)) e2 e3) hl
  rw [qE_ref hp, qpR_1]
  show H1[b0 + a]? = some (vp_cell _ _)
  rw [e1]
  rw [vp_cell_q, vp_cell_q, arrV_store]
  congr 2
  funext q
  by_cases hq : q = j
  · subst hq
    simp [updV, va_up, va_rf]
  · simp [updV, va_up, hq]
/-- the law's script -/
theorem qx_sld {L j : Nat} {xs : Nat → Int32} {i : Int32} {w : Nat} (hz : z = some (L, xs)) (hd : decode y.2.1 pc = .ok (.iaload, 1)) (hL : L < 2 ^ 31) (hi : i = nI j) (hj : j < L)
    (k : qX y d z cT sT (pc + 1) lv (.int (xs j) :: st) h n ce sl Rp) : qX y d z cT sT pc lv (.int i :: .retAddr w :: st) h n ce sl Rp := by
  intro p l e R s m args below meth c Q b0 b D dA C hr H locs ls hA hl
  obtain ⟨h1, h2⟩ := q_in hi hj hL
  subst hz
  obtain ⟨hX, hb⟩ := C.2.2.2.2.2.2.2.2.2
  refine va_sld (A := fun q => b0 ≤ q) C.1 C.2.1 hX (Nat.lt_of_lt_of_le hb C.2.2.2.2.2.2.2.1) (Nat.not_le.mpr hb) hA.2.2 h1 hd ?_
  rw [h2]
  exact k p l e R s m args below meth c Q b0 b D dA C hr H locs ls hA hl
theorem qx_slen {L : Nat} {xs : Nat → Int32} {w : Nat} (hz : z = some (L, xs)) (hd : decode y.2.1 pc = .ok (.arraylength, 1))
    (k : qX y d z cT sT (pc + 1) lv (.int (nI L) :: st) h n ce sl Rp) : qX y d z cT sT pc lv (.retAddr w :: st) h n ce sl Rp := by
  intro p l e R s m args below meth c Q b0 b D dA C hr H locs ls hA hl
  subst hz
  obtain ⟨hX, hb⟩ := C.2.2.2.2.2.2.2.2.2
  exact va_slen (A := fun q => b0 ≤ q) C.1 C.2.1 hX (Nat.lt_of_lt_of_le hb C.2.2.2.2.2.2.2.1) (Nat.not_le.mpr hb) hA.2.2 hd (k p l e R s m args below meth c Q b0 b D dA C hr H locs ls hA hl)
end QZ
/-! new cells -/
theorem qW_succ {b0 : Nat} {dA : Nat → ClassId} {h : qH} {n : Nat} : qW b0 dA h (n + 1) = qW b0 dA h n ++ [(b0 + n, qE b0 dA h n)] := by
  simp [qW, List.range_succ]
theorem qA.push {b0 : Nat} {D : va_G} {dA : Nat → ClassId} {h : qH} {n : Nat} {s : State} {H H' : Heap} {locs : List Loc} (hA : qA b0 D dA h n s H locs) (hc : va_at D vwCl (b0 + n, qE b0 dA h n) H') (hz : H'.size = b0 + n + 1) (hq : ∀ q : Nat, q < b0 + n → H'[q]? = H[q]?) : qA b0 D dA h (n + 1) s H' locs := by
  have hs := hA.2.1
  have hS := hA.2.2
  refine ⟨?_, hz, ⟨Nat.le_trans hS.1 (by omega), fun q h1 h2 => ?_, hS.2.2⟩⟩
  · rw [qW_succ]
    refine va_P.app (va_P.kept hA.1 (fun k q hk => hq _ ?_)) (fun k q hk => ?_)
    · rw [← hs]
      exact (hA.1 k q hk).lt
    · have hk1 : k < 1 := (List.getElem?_eq_some_iff.mp hk).1
      have hk0 : k = 0 := by omega
      subst hk0
      cases hk
      exact hc
  · rw [hq q (by rw [← hs]; exact Nat.lt_of_lt_of_le h1 hS.1)]
    exact hS.2.1 q h1 h2
theorem q_dv {b0 : Nat} {ty : FieldType} (h1 : ty ≠ .float) (h2 : ty ≠ .double) : defaultValue ty = qV b0 ty 0 0 none := by
  cases ty <;> first | rfl | exact absurd rfl h1 | exact absurd rfl h2
/-- a class that is made: own's pool entry idx is class number ci -/
def qNw (own : String) (idx ci : Nat) : Prop := ci < 20 ∧ ∃ (C : String) (T : u_T), vwCl[ci]? = some (C, T, qN ci) ∧ (∀ w ∈ u_ws C T (qN ci), w ∈ qGW) ∧ (∀ k, k < qN ci → parseFieldDescriptor (T k).2.2.1 = some (qFT ci k)) ∧ (∀ k, k < qN ci → qFT ci k ≠ .float ∧ qFT ci k ≠ .double) ∧ Cond.classLink own idx C ∈ qGW ∧ Cond.instantiable C (qN ci) ∈ qGW ∧ Cond.initialized C ∈ qGW
section QN
variable {y : qMi} {d : Nat} {z : Option (Nat × (Nat → Int32))} {cT sT pc : Nat} {lv st : List Value} {h : qH} {n ce sl : Nat} {Rp : Option Value → qH → Nat → Prop}
theorem qx_new {ci x idx : Nat} (hd : decode y.2.1 pc = .ok (.new idx, 3)) (hw : qNw y.1.cls idx ci) (hp : qPl n = (ci, x)) (hz : ∀ j, h.1 n j = 0 ∧ h.2.1 n j = 0 ∧ h.2.2 n j = none) (hce : ce + 1 ≤ cT) (hsl : sl + qN ci ≤ sT)
    (k : qX y d z cT sT (pc + 3) lv (.ref n :: st) h (n + 1) (ce + 1) (sl + qN ci) Rp) : qX y d z cT sT pc lv st h n ce sl Rp := by
  intro p l e R s m args below meth c Q b0 b D dA C hr H locs ls hA hl
  obtain ⟨hc20, C0, T, hc, hin, hty, hnf, hcl, hins, hini⟩ := hw
  have hts := C.2.2.2.2.1
  obtain ⟨-, -, hRc, hRs⟩ := C.2.2.2.2.2.2.1
  have hKn := C.2.2.2.2.2.1.1.1 ci _ hc
  refine W.newcK C.1 C.2.1 C.2.2.2.1 (hts _ hcl) (hts _ hins) (hts _ hini) rfl hd (by omega) (by omega) hKn.2.1 hA.2.1 fun H1 kC hkC e1 z1 o1 => ?_
  refine k p l e R s m args below meth c Q b0 b D dA C hr H1 locs ls (hA.push ?_ z1 o1) hl
  rw [qE_obj hp hc20]
  refine ⟨_, hc, (u_born (qFT ci) hts hin hKn hkC e1 hty).to (fun j hj => ?_)⟩
  rw [q_vpV hj, (hz j).1, (hz j).2.1, (hz j).2.2]
  exact q_dv (hnf j hj).1 (hnf j hj).2
theorem qx_newI {N : Nat} {i : Int32} (hd : decode y.2.1 pc = .ok (.newarray .int, 2)) (hw : Cond.arrayClass .int ∈ qGW) (hp : qPl n = (20, N)) (hN : Nat.blt N 1000 = true) (hi : i = nI N) (hz : ∀ j, h.1 n j = 0) (hce : ce + 1 ≤ cT) (hsl : sl + N ≤ sT)
    (k : qX y d z cT sT (pc + 2) lv (.ref n :: st) h (n + 1) (ce + 1) (sl + N) Rp) : qX y d z cT sT pc lv (.int i :: st) h n ce sl Rp := by
  intro p l e R s m args below meth c Q b0 b D dA C hr H locs ls hA hl
  have hN' := Nat.blt_eq.mp hN
  obtain ⟨-, -, hRc, hRs⟩ := C.2.2.2.2.2.2.1
  subst hi
  refine va_newaK C.1 C.2.1 (atype := .int) (C.2.2.2.2.1 _ hw) rfl hd rfl (nI_pos (by omega)) (nI_clamp (by omega)) (by show N * 4 ≤ _; omega) (by omega) (by omega) hA.2.1 fun H1 cA e1 z1 o1 hAr hNm => ?_
  refine k p l e R s m args below meth c Q b0 b D dA C hr H1 locs ls (hA.push ?_ z1 o1) hl
  have hcA : cA = dA 0 := Option.some.inj (hNm.symm.trans (C.2.2.2.2.2.1.1.2 0 _ rfl).2)
  subst hcA
  rw [qE_int hp]
  show H1[b0 + n]? = some (vp_cell _ _)
  rw [e1, vp_cell_i]
  congr 2
  funext j
  rw [hz j]
  rfl
theorem qx_newL {N : Nat} {i : Int32} (hd : decode y.2.1 pc = .ok (.newarray .long, 2)) (hw : Cond.arrayClass .long ∈ qGW) (hp : qPl n = (21, N)) (hN : Nat.blt N 1000 = true) (hi : i = nI N) (hz : ∀ j, h.2.1 n j = 0) (hce : ce + 1 ≤ cT) (hsl : sl + N ≤ sT)
    (k : qX y d z cT sT (pc + 2) lv (.ref n :: st) h (n + 1) (ce + 1) (sl + N) Rp) : qX y d z cT sT pc lv (.int i :: st) h n ce sl Rp := by
  intro p l e R s m args below meth c Q b0 b D dA C hr H locs ls hA hl
  have hN' := Nat.blt_eq.mp hN
  obtain ⟨-, -, hRc, hRs⟩ := C.2.2.2.2.2.2.1
  subst hi
  refine va_newaK C.1 C.2.1 (atype := .long) (C.2.2.2.2.1 _ hw) rfl hd rfl (nI_pos (by omega)) (nI_clamp (by omega)) (by show N * 8 ≤ _; omega) (by omega) (by omega) hA.2.1 fun H1 cA e1 z1 o1 hAr hNm => ?_
  refine k p l e R s m args below meth c Q b0 b D dA C hr H1 locs ls (hA.push ?_ z1 o1) hl
  have hcA : cA = dA 1 := Option.some.inj (hNm.symm.trans (C.2.2.2.2.2.1.1.2 1 _ rfl).2)
  subst hcA
  rw [qE_long hp]
  show H1[b0 + n]? = some (vp_cell _ _)
  rw [e1, vp_cell_l]
  congr 2
  funext j
  rw [hz j]
  rfl
theorem qx_newZ {N : Nat} {i : Int32} (hd : decode y.2.1 pc = .ok (.newarray .boolean, 2)) (hw : Cond.arrayClass .boolean ∈ qGW) (hp : qPl n = (22, N)) (hN : Nat.blt N 1000 = true) (hi : i = nI N) (hz : ∀ j, h.1 n j = 0) (hce : ce + 1 ≤ cT) (hsl : sl + N ≤ sT)
    (k : qX y d z cT sT (pc + 2) lv (.ref n :: st) h (n + 1) (ce + 1) (sl + N) Rp) : qX y d z cT sT pc lv (.int i :: st) h n ce sl Rp := by
  intro p l e R s m args below meth c Q b0 b D dA C hr H locs ls hA hl
  have hN' := Nat.blt_eq.mp hN
  obtain ⟨-, -, hRc, hRs⟩ := C.2.2.2.2.2.2.1
  subst hi
  refine va_newaK C.1 C.2.1 (atype := .boolean) (C.2.2.2.2.1 _ hw) rfl hd rfl (nI_pos (by omega)) (nI_clamp (by omega)) (by show N * 1 ≤ _; omega) (by omega) (by omega) hA.2.1 fun H1 cA e1 z1 o1 hAr hNm => ?_
  refine k p l e R s m args below meth c Q b0 b D dA C hr H1 locs ls (hA.push ?_ z1 o1) hl
  have hcA : cA = dA 2 := Option.some.inj (hNm.symm.trans (C.2.2.2.2.2.1.1.2 2 _ rfl).2)
  subst hcA
  rw [qE_bool hp]
  show H1[b0 + n]? = some (vp_cell _ _)
  rw [e1, vp_cell_i]
  congr 2
  funext j
  rw [hz j]
  rfl
theorem qx_newR {N t idx : Nat} {C0 : String} {i : Int32} (hd : decode y.2.1 pc = .ok (.anewarray idx, 3)) (hw : Cond.classLink y.1.cls idx C0 ∈ qGW) (hO : C0 ∈ qAO) (ht : ∀ dA : Nat → ClassId, (qTys dA)[3 + t]? = some (dA (3 + t), .object C0)) (hp : qPl n = (23 + t, N)) (hN : Nat.blt N 1000 = true) (hi : i = nI N) (hz : ∀ j, h.2.2 n j = none) (hce : ce + 1 ≤ cT) (hsl : sl + N ≤ sT)
    (k : qX y d z cT sT (pc + 3) lv (.ref n :: st) h (n + 1) (ce + 1) (sl + N) Rp) : qX y d z cT sT pc lv (.int i :: st) h n ce sl Rp := by
  intro p l e R s m args below meth c Q b0 b D dA C hr H locs ls hA hl
  have hN' := Nat.blt_eq.mp hN
  obtain ⟨-, -, hRc, hRs⟩ := C.2.2.2.2.2.2.1
  subst hi
  have hcl : (nI N).toNatClampNeg = N := nI_clamp (by omega)
  refine W.anew C.1 C.2.1 C.2.2.2.1 (C.2.2.2.2.1 _ hw) (va_AO.use (C.2.2.2.2.2.1.2.2.2 _ hO)) rfl hd rfl (nI_pos (by omega)) (by rw [hcl]; omega) (by omega) (by rw [hcl]; omega) fun cA kA comp f1 f2 f3 f4 => ?_
  rw [hcl]
  obtain ⟨-, -, -, -, -, hNm⟩ := (C.2.2.2.2.2.1.1.2 (3 + t) _ (ht dA)).2
  have hcA : cA = dA (3 + t) := Option.some.inj (f1.symm.trans hNm)
  subst hcA
  generalize hH1 : H.push ({ cls := dA (3 + t), slots := Array.replicate N .null, vm := .none } : Cell) = H1
  have hsz := hA.2.1
  have z1 : H1.size = b0 + n + 1 := by rw [← hH1, Array.size_push, hsz]
  have e1 : H1[b0 + n]? = some (arrV (dA (3 + t)) N (fun _ => .null)) := by rw [← hH1, ← hsz, Array.getElem?_push_size, ← arrV_new]
  have o1 : ∀ q : Nat, q < b0 + n → H1[q]? = H[q]? := fun q hq => by rw [← hH1, Array.getElem?_push, if_neg (by omega)]
  rw [hsz]
  refine k p l e R s m args below meth c Q b0 b D dA C hr H1 locs ls (hA.push ?_ z1 o1) hl
  rw [qE_ref hp]
  show H1[b0 + n]? = some (vp_cell _ _)
  rw [e1, vp_cell_q]
  congr 2
  funext j
  rw [hz j]
  rfl
theorem qx_objInit {idx r : Nat} (hd : decode y.2.1 pc = .ok (.invokespecial idx, 3)) (hw : Cond.methodLink y.1.cls idx Lib.objectInit ∈ qGW ∧ Cond.instanceMethod Lib.objectInit ∈ qGW ∧ Cond.code Lib.objectInit ⟨#[0xb1]⟩ 1 none ∈ qGW) (hrest : Nat.ble ((st.map Value.category).sum) 8 = true) (hd1 : 1 ≤ d)
    (k : qX y d z cT sT (pc + 3) lv st h n ce sl Rp) : qX y d z cT sT pc lv (.ref r :: st) h n ce sl Rp := by
  intro p l e R s m args below meth c Q b0 b D dA C hr H locs ls hA hl
  have hts := C.2.2.2.2.1
  obtain ⟨hRf, hRl, -, -⟩ := C.2.2.2.2.2.2.1
  have hcat : ((st.map (qrel b0 b)).map fun v => v.category).sum ≤ 8 := by
    rw [List.map_map]
    have e : ((fun v : Value => v.category) ∘ qrel b0 b) = Value.category := by funext v; exact qrel_cat b0 b v
    rw [e]
    exact Nat.ble_eq.mp hrest
  refine W.objInit C.1 C.2.1 C.2.2.2.1 (hts _ hw.1) (hts _ hw.2.1) (hts _ hw.2.2) rfl (by rw [C.2.2.1]; exact hl.1) rfl hd (by omega) (by show 2 * 0 + _ + 12 ≤ _; omega) ?_
  exact k p l e R s m args below meth c Q b0 b D dA C hr H locs ls hA hl
end QN
/-! contracts and calls -/
def qP (av : List Value) (h : qH) (n b0 b : Nat) (D : va_G) (dA : Nat → ClassId) : Array Value → State → Prop := fun v U => v = (av.map (qrel b0 b)).toArray ∧ va_P D vwCl (qW b0 dA h n) U.heap ∧ U.heap.size = b0 + n ∧ qK D dA U
def qQ (Rp : Option Value → qH → Nat → Prop) (b0 b : Nat) (D : va_G) (dA : Nat → ClassId) : Array Value → State → Outcome → State → Prop := fun _ st o t => ∃ (v : Option Value) (h : qH) (n : Nat), o = .returned (v.map (qrel b0 b)) ∧ Rp v h n ∧ va_P D vwCl (qW b0 dA h n) t.heap ∧ t.heap.size = b0 + n ∧ va_F (fun q => b0 ≤ q) st t
abbrev qws (y : qMi) : List Cond := Cond.code y.1 y.2.1 y.2.2.1 y.2.2.2 :: qGW
abbrev qrm (d cT sT : Nat) : Room := { frames := d, cells := cT, slots := sT, locals := 39 * d }
/-- A CONTRACT: called with these arguments on this heap of n cells, the method returns, and answer, heap and number of cells satisfy Rp; it nests at most d deep, makes at most cT cells of sT slots -/
def qT (y : qMi) (d cT sT : Nat) (av : List Value) (h : qH) (n : Nat) (Rp : Option Value → qH → Nat → Prop) : Prop := ∀ (l : Launch) (b0 b : Nat) (D : va_G) (dA : Nat → ClassId), Met l y.1 (qws y) (qrm d cT sT) (qP av h n b0 b D dA) (qQ Rp b0 b D dA) cT sT (fun q => b0 ≤ q)
theorem qP_blind {av : List Value} {h : qH} {n b0 b : Nat} {D : va_G} {dA : Nat → ClassId} : FrameBlind (qP av h n b0 b D dA) := fun a U g mk q => ⟨q.1, q.2.1, q.2.2.1, qK.calling q.2.2.2 g mk a⟩
def qsl (av : List Value) : List Value := av.flatMap fun v => if v.category = 2 then [v, qdead] else [v]
def qent (av : List Value) (nL : Nat) : List Value := qsl av ++ List.replicate (nL - (qsl av).length) qdead
theorem qsl_in {b0 b : Nat} : ∀ (av : List Value) (off j : Nat) (v : Value), (qsl av)[j]? = some v → v ≠ qdead → (off + j, qrel b0 b v) ∈ lv_args off (av.map (qrel b0 b))
  | [], off, j, v, h, _ => by simp [qsl] at h
  | a :: l, off, j, v, h, hd => by
    have e : qsl (a :: l) = (if a.category = 2 then [a, qdead] else [a]) ++ qsl l := by simp [qsl]
    rw [e] at h
    rw [List.map_cons]
    unfold lv_args
    rw [qrel_cat]
    by_cases hc : a.category = 2
    · rw [if_pos hc] at h ⊢
      match j, h with
      | 0, h =>
        simp at h
        subst h
        exact List.mem_cons_self
      | 1, h =>
        simp at h
        exact absurd h.symm hd
      | j + 2, h =>
        simp at h
        have := qsl_in (b0 := b0) (b := b) l (off + 2) j v h hd
        rw [show off + (j + 2) = off + 2 + j by omega]
        exact List.mem_cons_of_mem _ this
    · rw [if_neg hc] at h ⊢
      match j, h with
      | 0, h =>
        simp at h
        subst h
        exact List.mem_cons_self
      | j + 1, h =>
        simp at h
        have := qsl_in (b0 := b0) (b := b) l (off + 1) j v h hd
        rw [show off + (j + 1) = off + 1 + j by omega]
        exact List.mem_cons_of_mem _ this
theorem qL.entry {b0 b nL : Nat} {av : List Value} (hk : (lg_sl (av.map (qrel b0 b))).length ≤ nL) : qL b0 b nL (qent av nL) ((lg_sl (av.map (qrel b0 b)) ++ List.replicate (nL - (lg_sl (av.map (qrel b0 b))).length) Slot.unset).toArray) := by
  refine qL.mono (lv_entry (av.map (qrel b0 b)) hk) fun q hq => ?_
  obtain ⟨v, h1, h2, h3⟩ := qlvs_of hq
  obtain ⟨j, x⟩ := q
  dsimp only at h1 h3
  subst h3
  unfold qent at h1
  by_cases hj : j < (qsl av).length
  · rw [List.getElem?_append_left hj] at h1
    have := qsl_in (b0 := b0) (b := b) av 0 j v h1 h2
    rwa [Nat.zero_add] at this
  · rw [List.getElem?_append_right (by omega), List.getElem?_replicate] at h1
    split at h1
    · exact absurd (Option.some.inj h1).symm h2
    · cases h1
theorem qT.of {y : qMi} {d cT sT : Nat} {av lv0 : List Value} {h : qH} {n : Nat} {Rp : Option Value → qH → Nat → Prop} (hy : plainFor y.1 = true) (hk : ∀ b0 b, (lg_sl (av.map (qrel b0 b))).length ≤ y.2.2.1) (he : qent av y.2.2.1 = lv0)
    (k : qX y d none cT sT 0 lv0 [] h n 0 0 Rp) : qT y d cT sT av h n Rp := by
  intro l b0 b D dA
  subst he
  refine va_MetF (cc := y.2.1) (maxL := y.2.2.1) (ret := y.2.2.2) hy rfl ?_
  intro p e s m args below meth c s₁ B hml hv
  obtain ⟨rfl, hP, hz, hK⟩ := hv
  have hts : ∀ w ∈ qGW, w.before _ s = true := fun w hw => atoms_spec (ws := qws y) B.pre w (List.mem_cons_of_mem _ hw)
  rw [lg_entry_eq]
  refine k p l e _ s m _ below meth c _ b0 b D dA ⟨B.exec, B.bytes, hml, findClass_of_methodNamed B.named, hts, hK, ⟨Nat.le_refl _, Nat.le_refl _, Nat.le_refl _, Nat.le_refl _⟩, by rw [hz]; exact Nat.le_add_right _ _, (name_of_methodNamed B.named B.method).1, trivial⟩ ?_ s.heap [] _ ⟨hP, hz, va_S.rf⟩ (qL.entry (hk b0 b))
  intro H locs ls pc v h n hR hA hq
  have hf : ∀ q ∈ locs, b0 ≤ q.base := hA.2.2.2.2
  rcases hq with ⟨h1, h2, rfl⟩ | ⟨r, ty, h1, h2, h3, rfl⟩ | ⟨r, h1, h2, rfl⟩ | ⟨r, ty, h1, h2, h3, rfl⟩
  · exact W.vret B.exec B.bytes (B.returns.trans h1) (fun t ht hW => ⟨none, h, n, rfl, hR, by rw [ht]; exact hA.1, by rw [ht]; exact hA.2.1, hA.2.2.F ht⟩) hf h2 B.notSynchronized
  · exact W.zret B.exec B.bytes (B.returns.trans h1) h3 (fun t ht hW => ⟨some (.int r), h, n, rfl, hR, by rw [ht]; exact hA.1, by rw [ht]; exact hA.2.1, hA.2.2.F ht⟩) hf h2 B.notSynchronized
  · exact W.lret B.exec B.bytes (B.returns.trans h1) (fun t ht hW => ⟨some (.long r), h, n, rfl, hR, by rw [ht]; exact hA.1, by rw [ht]; exact hA.2.1, hA.2.2.F ht⟩) hf h2 B.notSynchronized
  · exact W.aret B.exec B.bytes (B.returns.trans h1) h2 (Or.inr ⟨_, rfl⟩) (fun t ht hW => ⟨some (.ref r), h, n, rfl, hR, by rw [ht]; exact hA.1, by rw [ht]; exact hA.2.1, hA.2.2.F ht⟩) hf h3 B.notSynchronized
/-- a method that is called: its code and words -/
def qY (y : qMi) (k : Nat) : Prop := Cond.code y.1 y.2.1 y.2.2.1 y.2.2.2 ∈ qGW ∧ Cond.initialized y.1.cls ∈ qGW ∧ (y.1.cls ≠ "java/lang/invoke/MethodHandle" ∧ y.1.cls ≠ "java/lang/invoke/VarHandle" ∧ (parseMethodDescriptor y.1.desc).map (fun d => d.parameters.length) = some k) ∧ y.2.2.1 ≤ 20
def qLk (own : String) (idx : Nat) (y : qMi) : Prop := Cond.methodLink own idx y.1 ∈ qGW ∨ ∃ host, (own, idx, y.1, host) ∈ qNM
theorem qG {y : qMi} {k : Nat} (h : qY y k) : GoodIn qGW (qws y) := by
  intro w hw
  rcases List.mem_cons.mp hw with rfl | hw
  · exact ⟨h.1, Or.inl rfl⟩
  · exact ⟨hw, qGW_good w hw⟩
section QR
variable {p : Program} {l : Launch} {e : Env} {R : Room} {s : State} {m : MethodId} {args : Array Value} {below : List Frame} {meth : Method} {c : Code} {H : Heap} {locs : List Loc} {cells slots : Nat} {Q : State → Prop}
theorem q_call {pc b0 b mc ms : Nat} {D : va_G} {dA : Nat → ClassId} {ls : Array Slot} {rest st0 : List Value} {a : Array Value} {Rq : Option Value → qH → Nat → Prop} (hr : va_Run p l e R s m args below meth c H locs cells slots mc ms (F0 m pc ls st0) (rest.map (qrel b0 b)) (qQ Rq b0 b D dA a) (fun q => b0 ≤ q)) (hS : va_S (fun q => b0 ≤ q) s.heap H locs)
    (kk : ∀ (v : Option Value) (h : qH) (n : Nat) (H1 : Heap) (locs1 : List Loc), Rq v h n → qA b0 D dA h n s H1 locs1 → W p l e R s m args below meth c H1 locs1 (cells + mc) (slots + ms) Q (F0 m (pc + 3) ls ((v.toList ++ rest).map (qrel b0 b)))) : W p l e R s m args below meth c H locs cells slots Q (F0 m pc ls st0) := by
  intro T hT X
  obtain ⟨v, st₀, t, T', L, h0, X', hL, e1, e2, ⟨v1, h, n, hv, hR, hP, hz, hF1, hF2⟩, st⟩ := hr T hT X
  cases hv
  rw [h0] at hF1 hF2
  obtain ⟨t2, a1, b1⟩ := kk v1 h n T'.heap (locs ++ L) hR ⟨by rw [e1]; exact hP, by rw [e1]; exact hz, ⟨Nat.le_trans hS.1 (by rw [e1]; exact hF1), fun q h1 h2 => by rw [e1, hF2 q (Nat.lt_of_lt_of_le h1 hS.1) h2]; exact hS.2.1 q h1 h2, fun q hq => by
      rcases List.mem_append.mp hq with h | h
      · exact hS.2.2 q h
      · exact hL q h⟩⟩ T' rfl X'
  have ee : (v1.toList ++ rest).map (qrel b0 b) = (v1.map (qrel b0 b)).toList ++ rest.map (qrel b0 b) := by cases v1 <;> simp
  rw [ee] at a1
  exact ⟨t2, st t2 a1, b1⟩
end QR
theorem q_room {b0 b : Nat} {rest : List Value} {m : MethodId} {pc : Nat} {ls : Array Slot} {st : List Value} (h : Nat.ble ((rest.map Value.category).sum) 8 = true) : 2 * (F0 m pc ls st).monitorRoom + ((rest.map (qrel b0 b)).map fun v => v.category).sum ≤ 8 := by
  rw [List.map_map]
  have e : ((fun v : Value => v.category) ∘ qrel b0 b) = Value.category := by funext v; exact qrel_cat b0 b v
  rw [e]
  have := Nat.ble_eq.mp h
  show 2 * 0 + _ ≤ 8
  omega
section QCALL
variable {y : qMi} {d : Nat} {z : Option (Nat × (Nat → Int32))} {cT sT pc : Nat} {lv st : List Value} {h : qH} {n ce sl : Nat} {Rp Rq : Option Value → qH → Nat → Prop}
theorem qx_callV {w : qMi} {dc mc ms r ci x idx na N0 : Nat} {T0 : u_T} {As rest : List Value} (hd : decode y.2.1 pc = .ok (.invokevirtual idx, 3)) (hlk : qLk y.1.cls idx w) (hw : qY w na) (hv : Cond.instanceMethod w.1 ∈ qGW ∧ Cond.selects w.1.cls w.1 w.1 ∈ qGW) (hst : st = As.reverse ++ .ref r :: rest) (hna : As.length = na)
    (hp : qPl r = (ci, x)) (hci : ci < 20) (hc : vwCl[ci]? = some (w.1.cls, T0, N0)) (hrn : Nat.blt r n = true) (hrest : Nat.ble ((rest.map Value.category).sum) 8 = true) (hdd : Nat.ble (dc + 1) d = true) (hcc : ce + mc ≤ cT) (hss : sl + ms ≤ sT)
    (hT : qT w dc mc ms (.ref r :: As) h n Rq) (k : ∀ v h1 n1, Rq v h1 n1 → qX y d z cT sT (pc + 3) lv (v.toList ++ rest) h1 n1 (ce + mc) (sl + ms) Rp) : qX y d z cT sT pc lv st h n ce sl Rp := by
  intro p l e R s m args below meth c Q b0 b D dA C hr H locs ls hA hl
  subst hst
  have hts := C.2.2.2.2.1
  obtain ⟨hRf, hRl, hRc, hRs⟩ := C.2.2.2.2.2.2.1
  have hdd' := Nat.ble_eq.mp hdd
  obtain ⟨-, hini, hdn, h45⟩ := id hw
  have hR : (qrm dc mc ms).frames + 1 ≤ R.frames ∧ 8 + (w.2.2.1 + 11) + (qrm dc mc ms).locals ≤ R.locals := ⟨by show dc + 1 ≤ _; omega, by show 8 + (w.2.2.1 + 11) + 39 * dc ≤ _; omega⟩
  have he := qW_at (b0 := b0) (dA := dA) (h := h) (Nat.blt_eq.mp hrn)
  rw [qE_obj hp hci] at he
  have hpre : PreV s H w.1.cls (b0 + r) (qP (.ref r :: As) h n b0 b D dA) (As.map (qrel b0 b)) := ⟨qP_blind, va_recv C.2.2.2.2.2.1.1 hA.1 hc he, fun U hU hW => ⟨rfl, by rw [hU]; exact hA.1, by rw [hU]; exact hA.2.1, qK.warm C.2.2.2.2.2.1 hW⟩⟩
  have hrun : va_Run p l e R s m args below meth c H locs ce sl mc ms (F0 m pc ls ((As.reverse ++ .ref r :: rest).map (qrel b0 b))) (rest.map (qrel b0 b)) (qQ Rq b0 b D dA (Value.ref (b0 + r) :: As.map (qrel b0 b)).toArray) (fun q => b0 ≤ q) := by
    have hsx : (F0 m pc ls ((As.reverse ++ .ref r :: rest).map (qrel b0 b))).stack = (As.map (qrel b0 b)).reverse ++ .ref (b0 + r) :: rest.map (qrel b0 b) := by
      show (As.reverse ++ .ref r :: rest).map (qrel b0 b) = _
      rw [List.map_append, List.map_reverse, List.map_cons]
      rfl
    rcases hlk with hlk | ⟨host, hlk⟩
    · exact va_runV (bytes := w.2.1) (maxL := w.2.2.1) (ret := w.2.2.2) (ws := qws w) (rm := qrm dc mc ms) (n := na) (nL := y.2.2.1) ⟨C.1, C.2.1, C.2.2.1, C.2.2.2.1, hts⟩ (hT l b0 b D dA) ⟨callB_of na hts (qG hw) rfl rfl rfl (hts _ hini) (hts _ hlk) hdn hR, hts _ hv.1, hts _ hv.2⟩ hpre rfl (by rw [List.length_map]; exact hna) hl.1 hsx (q_room hrest) hd ⟨by omega, by omega⟩
    · exact va_runVN (bytes := w.2.1) (maxL := w.2.2.1) (ret := w.2.2.2) (ws := qws w) (rm := qrm dc mc ms) (n := na) (nL := y.2.2.1) ⟨C.1, C.2.1, C.2.2.1, C.2.2.2.1, hts⟩ (hT l b0 b D dA) ⟨va_cnB na hts (qG hw) rfl rfl rfl (C.2.2.2.2.2.1.2.2.1 _ hlk) (hts _ hini) hdn hR, hts _ hv.1, hts _ hv.2⟩ hpre rfl (by rw [List.length_map]; exact hna) hl.1 hsx (q_room hrest) hd ⟨by omega, by omega⟩
  exact q_call hrun hA.2.2 (fun v h1 n1 H1 locs1 hq hA1 => k v h1 n1 hq p l e R s m args below meth c Q b0 b D dA C hr H1 locs1 ls hA1 hl)
theorem qx_callS {w : qMi} {dc mc ms idx na : Nat} {As rest : List Value} (hd : decode y.2.1 pc = .ok (.invokestatic idx, 3)) (hlk : qLk y.1.cls idx w) (hw : qY w na) (hv : Cond.static w.1 ∈ qGW) (hst : st = As.reverse ++ rest) (hna : As.length = na)
    (hrest : Nat.ble ((rest.map Value.category).sum) 8 = true) (hdd : Nat.ble (dc + 1) d = true) (hcc : ce + mc ≤ cT) (hss : sl + ms ≤ sT)
    (hT : qT w dc mc ms As h n Rq) (k : ∀ v h1 n1, Rq v h1 n1 → qX y d z cT sT (pc + 3) lv (v.toList ++ rest) h1 n1 (ce + mc) (sl + ms) Rp) : qX y d z cT sT pc lv st h n ce sl Rp := by
  intro p l e R s m args below meth c Q b0 b D dA C hr H locs ls hA hl
  subst hst
  have hts := C.2.2.2.2.1
  obtain ⟨hRf, hRl, hRc, hRs⟩ := C.2.2.2.2.2.2.1
  have hdd' := Nat.ble_eq.mp hdd
  obtain ⟨-, hini, hdn, h45⟩ := id hw
  have hR : (qrm dc mc ms).frames + 1 ≤ R.frames ∧ 8 + (w.2.2.1 + 11) + (qrm dc mc ms).locals ≤ R.locals := ⟨by show dc + 1 ≤ _; omega, by show 8 + (w.2.2.1 + 11) + 39 * dc ≤ _; omega⟩
  have hpre : PreS s H (qP As h n b0 b D dA) (As.map (qrel b0 b)) := ⟨qP_blind, fun U hU hW => ⟨rfl, by rw [hU]; exact hA.1, by rw [hU]; exact hA.2.1, qK.warm C.2.2.2.2.2.1 hW⟩⟩
  have hrun : va_Run p l e R s m args below meth c H locs ce sl mc ms (F0 m pc ls ((As.reverse ++ rest).map (qrel b0 b))) (rest.map (qrel b0 b)) (qQ Rq b0 b D dA (As.map (qrel b0 b)).toArray) (fun q => b0 ≤ q) := by
    have hsx : (F0 m pc ls ((As.reverse ++ rest).map (qrel b0 b))).stack = (As.map (qrel b0 b)).reverse ++ rest.map (qrel b0 b) := by
      show (As.reverse ++ rest).map (qrel b0 b) = _
      rw [List.map_append, List.map_reverse]
    rcases hlk with hlk | ⟨host, hlk⟩
    · exact va_runS (bytes := w.2.1) (maxL := w.2.2.1) (ret := w.2.2.2) (ws := qws w) (rm := qrm dc mc ms) (n := na) (nL := y.2.2.1) ⟨C.1, C.2.1, C.2.2.1, C.2.2.2.1, hts⟩ (hT l b0 b D dA) ⟨callB_of na hts (qG hw) rfl rfl rfl (hts _ hini) (hts _ hlk) hdn hR, hts _ hv⟩ hpre rfl (by rw [List.length_map]; exact hna) hl.1 hsx (q_room hrest) hd ⟨by omega, by omega⟩
    · exact va_runSN (bytes := w.2.1) (maxL := w.2.2.1) (ret := w.2.2.2) (ws := qws w) (rm := qrm dc mc ms) (n := na) (nL := y.2.2.1) ⟨C.1, C.2.1, C.2.2.1, C.2.2.2.1, hts⟩ (hT l b0 b D dA) ⟨va_cnB na hts (qG hw) rfl rfl rfl (C.2.2.2.2.2.1.2.2.1 _ hlk) (hts _ hini) hdn hR, hts _ hv, trivial⟩ hpre rfl (by rw [List.length_map]; exact hna) hl.1 hsx (q_room hrest) hd ⟨by omega, by omega⟩
  exact q_call hrun hA.2.2 (fun v h1 n1 H1 locs1 hq hA1 => k v h1 n1 hq p l e R s m args below meth c Q b0 b D dA C hr H1 locs1 ls hA1 hl)
theorem qx_callI {w : qMi} {dc mc ms r idx na : Nat} {As rest : List Value} (hd : decode y.2.1 pc = .ok (.invokespecial idx, 3)) (hlk : qLk y.1.cls idx w) (hw : qY w na) (hv : w.1.name = "<init>" ∧ w.2.2.2 = none ∧ Cond.instanceMethod w.1 ∈ qGW) (hst : st = As.reverse ++ .ref r :: rest) (hna : As.length = na)
    (hrest : Nat.ble ((rest.map Value.category).sum) 8 = true) (hdd : Nat.ble (dc + 1) d = true) (hcc : ce + mc ≤ cT) (hss : sl + ms ≤ sT)
    (hT : qT w dc mc ms (.ref r :: As) h n Rq) (k : ∀ v h1 n1, Rq v h1 n1 → qX y d z cT sT (pc + 3) lv (v.toList ++ rest) h1 n1 (ce + mc) (sl + ms) Rp) : qX y d z cT sT pc lv st h n ce sl Rp := by
  intro p l e R s m args below meth c Q b0 b D dA C hr H locs ls hA hl
  subst hst
  obtain ⟨wn, wb, wl, wr⟩ := w
  dsimp only at hv
  obtain ⟨hv1, rfl, hv2⟩ := hv
  have hts := C.2.2.2.2.1
  obtain ⟨hRf, hRl, hRc, hRs⟩ := C.2.2.2.2.2.2.1
  have hdd' := Nat.ble_eq.mp hdd
  obtain ⟨-, hini, hdn, h45⟩ := id hw
  dsimp only at h45 hini hdn
  have hR : (qrm dc mc ms).frames + 1 ≤ R.frames ∧ 8 + (wl + 11) + (qrm dc mc ms).locals ≤ R.locals := ⟨by show dc + 1 ≤ _; omega, by show 8 + (wl + 11) + 39 * dc ≤ _; omega⟩
  have hpre : PreS s H (qP (.ref r :: As) h n b0 b D dA) (.ref (b0 + r) :: As.map (qrel b0 b)) := ⟨qP_blind, fun U hU hW => ⟨rfl, by rw [hU]; exact hA.1, by rw [hU]; exact hA.2.1, qK.warm C.2.2.2.2.2.1 hW⟩⟩
  have hrun : va_Run p l e R s m args below meth c H locs ce sl mc ms (F0 m pc ls ((As.reverse ++ .ref r :: rest).map (qrel b0 b))) (rest.map (qrel b0 b)) (qQ Rq b0 b D dA (Value.ref (b0 + r) :: As.map (qrel b0 b)).toArray) (fun q => b0 ≤ q) := by
    have hsx : (F0 m pc ls ((As.reverse ++ .ref r :: rest).map (qrel b0 b))).stack = (As.map (qrel b0 b)).reverse ++ .ref (b0 + r) :: rest.map (qrel b0 b) := by
      show (As.reverse ++ .ref r :: rest).map (qrel b0 b) = _
      rw [List.map_append, List.map_reverse, List.map_cons]
      rfl
    rcases hlk with hlk | ⟨host, hlk⟩
    · exact va_runI (bytes := wb) (maxL := wl) (ws := qws (wn, wb, wl, none)) (rm := qrm dc mc ms) (n := na) (nL := y.2.2.1) ⟨C.1, C.2.1, C.2.2.1, C.2.2.2.1, hts⟩ (hT l b0 b D dA) ⟨callB_of na hts (qG hw) rfl rfl rfl (hts _ hini) (hts _ hlk) hdn hR, hv1, hts _ hv2⟩ hpre rfl (by rw [List.length_map]; exact hna) hl.1 hsx (q_room hrest) hd ⟨by omega, by omega⟩
    · exact va_runIN (bytes := wb) (maxL := wl) (ws := qws (wn, wb, wl, none)) (rm := qrm dc mc ms) (n := na) (nL := y.2.2.1) ⟨C.1, C.2.1, C.2.2.1, C.2.2.2.1, hts⟩ (hT l b0 b D dA) ⟨va_cnB na hts (qG hw) rfl rfl rfl (C.2.2.2.2.2.1.2.2.1 _ hlk) (hts _ hini) hdn hR, hv1, hts _ hv2⟩ hpre rfl (by rw [List.length_map]; exact hna) hl.1 hsx (q_room hrest) hd ⟨by omega, by omega⟩
  exact q_call hrun hA.2.2 (fun v h1 n1 H1 locs1 hq hA1 => k v h1 n1 hq p l e R s m args below meth c Q b0 b D dA C hr H1 locs1 ls hA1 hl)
end QCALL
section QNAT
variable {y : qMi} {d : Nat} {z : Option (Nat × (Nat → Int32))} {cT sT pc : Nat} {lv st : List Value} {h : qH} {n ce sl : Nat} {Rp : Option Value → qH → Nat → Prop}
theorem q_cI {i : Int} {k : Nat} (h : (k : Int) = i) : Int32.ofInt i = nI k := by subst h; rfl
theorem qx_iconstN {i : Int} {v : Nat} (hd : decode y.2.1 pc = .ok (.iconst i, 1)) (hv : Int32.ofInt i = nI v) (k : qX y d z cT sT (pc + 1) lv (.int (nI v) :: st) h n ce sl Rp) : qX y d z cT sT pc lv st h n ce sl Rp := qx_iconst hd hv k
theorem qx_bipushN {i : Int} {v : Nat} (hd : decode y.2.1 pc = .ok (.bipush i, 2)) (hv : (Int8.ofInt i).toInt32 = nI v) (k : qX y d z cT sT (pc + 2) lv (.int (nI v) :: st) h n ce sl Rp) : qX y d z cT sT pc lv st h n ce sl Rp := qx_bipush hd hv k
theorem qx_sipushN {i : Int} {v : Nat} (hd : decode y.2.1 pc = .ok (.sipush i, 3)) (hv : (Int16.ofInt i).toInt32 = nI v) (k : qX y d z cT sT (pc + 3) lv (.int (nI v) :: st) h n ce sl Rp) : qX y d z cT sT pc lv st h n ce sl Rp := qx_sipush hd hv k
theorem qx_iaddN {a x : Nat} (hd : decode y.2.1 pc = .ok (.iadd, 1)) (k : qX y d z cT sT (pc + 1) lv (.int (nI (a + x)) :: st) h n ce sl Rp) : qX y d z cT sT pc lv (.int (nI x) :: .int (nI a) :: st) h n ce sl Rp := qx_iadd hd (by rw [nI_add]; exact k)
theorem qx_isubN {a x : Nat} (hd : decode y.2.1 pc = .ok (.isub, 1)) (hx : x ≤ a) (k : qX y d z cT sT (pc + 1) lv (.int (nI (a - x)) :: st) h n ce sl Rp) : qX y d z cT sT pc lv (.int (nI x) :: .int (nI a) :: st) h n ce sl Rp := qx_isub hd (by rw [pk_sub hx]; exact k)
theorem qx_imulN {a x : Nat} (hd : decode y.2.1 pc = .ok (.imul, 1)) (k : qX y d z cT sT (pc + 1) lv (.int (nI (a * x)) :: st) h n ce sl Rp) : qX y d z cT sT pc lv (.int (nI x) :: .int (nI a) :: st) h n ce sl Rp := qx_imul hd (by rw [pk_mul]; exact k)
theorem qx_idivN {a x : Nat} (hd : decode y.2.1 pc = .ok (.idiv, 1)) (ha : a < 2 ^ 31) (h0 : 0 < x) (hx : x < 2 ^ 31) (k : qX y d z cT sT (pc + 1) lv (.int (nI (a / x)) :: st) h n ce sl Rp) : qX y d z cT sT pc lv (.int (nI x) :: .int (nI a) :: st) h n ce sl Rp := qx_idiv hd (nI_ne0 h0 hx) (by rw [pk_div ha h0 hx]; exact k)
theorem qx_iremN {a x : Nat} (hd : decode y.2.1 pc = .ok (.irem, 1)) (ha : a < 2 ^ 31) (h0 : 0 < x) (hx : x < 2 ^ 31) (k : qX y d z cT sT (pc + 1) lv (.int (nI (a % x)) :: st) h n ce sl Rp) : qX y d z cT sT pc lv (.int (nI x) :: .int (nI a) :: st) h n ce sl Rp := qx_irem hd (nI_ne0 h0 hx) (by rw [pk_rem ha h0 hx]; exact k)
theorem qx_iincN {i x w : Nat} {a : Int} {lv1 : List Value} (hd : decode y.2.1 pc = .ok (.iinc i a, 3)) (hv : lv[i]? = some (.int (nI x))) (ha : (w : Int) = a) (hn : i < y.2.2.1) (he : qst lv i (.int (nI (x + w))) = lv1) (k : qX y d z cT sT (pc + 3) lv1 st h n ce sl Rp) : qX y d z cT sT pc lv st h n ce sl Rp := qx_iinc (j := 0) hd hv (by rw [← ha]; exact nI_add x w) hn he k
theorem qx_idecN {i x : Nat} {lv1 : List Value} (hd : decode y.2.1 pc = .ok (.iinc i (-1), 3)) (hv : lv[i]? = some (.int (nI (x + 1)))) (hn : i < y.2.2.1) (he : qst lv i (.int (nI x)) = lv1) (k : qX y d z cT sT (pc + 3) lv1 st h n ce sl Rp) : qX y d z cT sT pc lv st h n ce sl Rp := qx_iinc (j := 0) hd hv (pk_m1 x) hn he k
theorem qx_i2lN {a : Nat} (hd : decode y.2.1 pc = .ok (.i2l, 1)) (ha : a < 2 ^ 31) (k : qX y d z cT sT (pc + 1) lv (.long (lN a) :: st) h n ce sl Rp) : qX y d z cT sT pc lv (.int (nI a) :: st) h n ce sl Rp := qx_i2l hd (by rw [nI_l ha]; exact k)
theorem qx_icmp_eqN {a x : Nat} {off : Int} {t : Nat} (hd : decode y.2.1 pc = .ok (.if_icmp .eq off, 3)) (ht : (pc : Int) + off = (t : Int)) (ha : a < 2 ^ 31) (hx : x < 2 ^ 31) (kt : a = x → qX y d z cT sT t lv st h n ce sl Rp) (kf : a ≠ x → qX y d z cT sT (pc + 3) lv st h n ce sl Rp) : qX y d z cT sT pc lv (.int (nI x) :: .int (nI a) :: st) h n ce sl Rp := qx_icmp_eq hd ht (fun q => kt ((nI_eq ha hx).mp q)) (fun q => kf (fun e => q ((nI_eq ha hx).mpr e)))
theorem qx_icmp_neN {a x : Nat} {off : Int} {t : Nat} (hd : decode y.2.1 pc = .ok (.if_icmp .ne off, 3)) (ht : (pc : Int) + off = (t : Int)) (ha : a < 2 ^ 31) (hx : x < 2 ^ 31) (kt : a ≠ x → qX y d z cT sT t lv st h n ce sl Rp) (kf : a = x → qX y d z cT sT (pc + 3) lv st h n ce sl Rp) : qX y d z cT sT pc lv (.int (nI x) :: .int (nI a) :: st) h n ce sl Rp := qx_icmp_ne hd ht (fun q => kt (fun e => q ((nI_eq ha hx).mpr e))) (fun q => kf ((nI_eq ha hx).mp q))
theorem qx_icmp_ltN {a x : Nat} {off : Int} {t : Nat} (hd : decode y.2.1 pc = .ok (.if_icmp .lt off, 3)) (ht : (pc : Int) + off = (t : Int)) (ha : a < 2 ^ 31) (hx : x < 2 ^ 31) (kt : a < x → qX y d z cT sT t lv st h n ce sl Rp) (kf : x ≤ a → qX y d z cT sT (pc + 3) lv st h n ce sl Rp) : qX y d z cT sT pc lv (.int (nI x) :: .int (nI a) :: st) h n ce sl Rp := qx_icmp_lt hd ht (fun q => kt ((nI_ltI ha hx).mp q)) (fun q => kf (Nat.not_lt.mp (fun e => q ((nI_ltI ha hx).mpr e))))
theorem qx_icmp_geN {a x : Nat} {off : Int} {t : Nat} (hd : decode y.2.1 pc = .ok (.if_icmp .ge off, 3)) (ht : (pc : Int) + off = (t : Int)) (ha : a < 2 ^ 31) (hx : x < 2 ^ 31) (kt : x ≤ a → qX y d z cT sT t lv st h n ce sl Rp) (kf : a < x → qX y d z cT sT (pc + 3) lv st h n ce sl Rp) : qX y d z cT sT pc lv (.int (nI x) :: .int (nI a) :: st) h n ce sl Rp := qx_icmp_ge hd ht (fun q => kt ((nI_leI hx ha).mp q)) (fun q => kf (Nat.not_le.mp (fun e => q ((nI_leI hx ha).mpr e))))
theorem qx_icmp_gtN {a x : Nat} {off : Int} {t : Nat} (hd : decode y.2.1 pc = .ok (.if_icmp .gt off, 3)) (ht : (pc : Int) + off = (t : Int)) (ha : a < 2 ^ 31) (hx : x < 2 ^ 31) (kt : x < a → qX y d z cT sT t lv st h n ce sl Rp) (kf : a ≤ x → qX y d z cT sT (pc + 3) lv st h n ce sl Rp) : qX y d z cT sT pc lv (.int (nI x) :: .int (nI a) :: st) h n ce sl Rp := qx_icmp_gt hd ht (fun q => kt ((nI_ltI hx ha).mp q)) (fun q => kf (Nat.not_lt.mp (fun e => q ((nI_ltI hx ha).mpr e))))
theorem qx_icmp_leN {a x : Nat} {off : Int} {t : Nat} (hd : decode y.2.1 pc = .ok (.if_icmp .le off, 3)) (ht : (pc : Int) + off = (t : Int)) (ha : a < 2 ^ 31) (hx : x < 2 ^ 31) (kt : a ≤ x → qX y d z cT sT t lv st h n ce sl Rp) (kf : x < a → qX y d z cT sT (pc + 3) lv st h n ce sl Rp) : qX y d z cT sT pc lv (.int (nI x) :: .int (nI a) :: st) h n ce sl Rp := qx_icmp_le hd ht (fun q => kt ((nI_leI ha hx).mp q)) (fun q => kf (Nat.not_le.mp (fun e => q ((nI_leI ha hx).mpr e))))
theorem qx_if_eqN {a : Nat} {off : Int} {t : Nat} (hd : decode y.2.1 pc = .ok (.ifCond .eq off, 3)) (ht : (pc : Int) + off = (t : Int)) (ha : a < 2 ^ 31) (kt : a = 0 → qX y d z cT sT t lv st h n ce sl Rp) (kf : 0 < a → qX y d z cT sT (pc + 3) lv st h n ce sl Rp) : qX y d z cT sT pc lv (.int (nI a) :: st) h n ce sl Rp := qx_if_eq hd ht (fun q => kt ((nI_eq (b := 0) ha (by decide)).mp (by rw [nI_0]; exact q))) (fun q => kf (Nat.pos_of_ne_zero (fun e => q (by rw [e]; exact nI_0))))
theorem qx_if_neN {a : Nat} {off : Int} {t : Nat} (hd : decode y.2.1 pc = .ok (.ifCond .ne off, 3)) (ht : (pc : Int) + off = (t : Int)) (ha : a < 2 ^ 31) (kt : 0 < a → qX y d z cT sT t lv st h n ce sl Rp) (kf : a = 0 → qX y d z cT sT (pc + 3) lv st h n ce sl Rp) : qX y d z cT sT pc lv (.int (nI a) :: st) h n ce sl Rp := qx_if_ne hd ht (fun q => kt (Nat.pos_of_ne_zero (fun e => q (by rw [e]; exact nI_0)))) (fun q => kf ((nI_eq (b := 0) ha (by decide)).mp (by rw [nI_0]; exact q)))
theorem qx_if_ltN {a : Nat} {off : Int} {t : Nat} (hd : decode y.2.1 pc = .ok (.ifCond .lt off, 3)) (ht : (pc : Int) + off = (t : Int)) (ha : a < 2 ^ 31) (kf : qX y d z cT sT (pc + 3) lv st h n ce sl Rp) : qX y d z cT sT pc lv (.int (nI a) :: st) h n ce sl Rp := qx_if_lt hd ht (fun q => absurd q (nI_pos ha)) (fun _ => kf)
theorem qx_if_geN {a : Nat} {off : Int} {t : Nat} (hd : decode y.2.1 pc = .ok (.ifCond .ge off, 3)) (ht : (pc : Int) + off = (t : Int)) (ha : a < 2 ^ 31) (kt : qX y d z cT sT t lv st h n ce sl Rp) : qX y d z cT sT pc lv (.int (nI a) :: st) h n ce sl Rp := qx_if_ge hd ht (fun _ => kt) (fun q => absurd (nI_pos' ha) q)
theorem qx_if_gtN {a : Nat} {off : Int} {t : Nat} (hd : decode y.2.1 pc = .ok (.ifCond .gt off, 3)) (ht : (pc : Int) + off = (t : Int)) (ha : a < 2 ^ 31) (kt : 0 < a → qX y d z cT sT t lv st h n ce sl Rp) (kf : a = 0 → qX y d z cT sT (pc + 3) lv st h n ce sl Rp) : qX y d z cT sT pc lv (.int (nI a) :: st) h n ce sl Rp := qx_if_gt hd ht (fun q => kt ((nI_ltI (a := 0) (b := a) (by decide) ha).mp (by rw [nI_0]; exact q))) (fun q => kf (Nat.eq_zero_of_not_pos (fun e => q (by have := (nI_ltI (a := 0) (b := a) (by decide) ha).mpr e; rw [nI_0] at this; exact this))))
theorem qx_if_leN {a : Nat} {off : Int} {t : Nat} (hd : decode y.2.1 pc = .ok (.ifCond .le off, 3)) (ht : (pc : Int) + off = (t : Int)) (ha : a < 2 ^ 31) (kt : a = 0 → qX y d z cT sT t lv st h n ce sl Rp) (kf : 0 < a → qX y d z cT sT (pc + 3) lv st h n ce sl Rp) : qX y d z cT sT pc lv (.int (nI a) :: st) h n ce sl Rp := qx_if_le hd ht (fun q => kt (Nat.le_zero.mp ((nI_leI (b := 0) ha (by decide)).mp (by rw [nI_0]; exact q)))) (fun q => kf (Nat.pos_of_ne_zero (fun e => q (by rw [e, nI_0]; decide))))
def b2i (b : Bool) : Int32 := if b then 1 else 0
theorem b2i_t : b2i true = 1 := rfl
theorem b2i_f : b2i false = 0 := rfl
theorem b2i_nar (b : Bool) : narrow .boolean (.int (b2i b)) = .int (b2i b) := by cases b <;> rfl
theorem b2i_fit (b : Bool) : narrow .boolean (.int (b2i b)) = .int (b2i b) ∧ fits .boolean (.int (b2i b)) = true := by cases b <;> exact ⟨rfl, rfl⟩
theorem b2i_0 (b : Bool) : b2i b = 0 ↔ b = false := by cases b <;> decide
theorem q_b1 {b : Bool} (h : ¬ b2i b = 0) : b = true := by
  cases b with
  | false => exact absurd rfl h
  | true => rfl
theorem b2i_inj {a b : Bool} : b2i a = b2i b ↔ a = b := by cases a <;> cases b <;> decide
theorem qx_if_eqB {b : Bool} {off : Int} {t : Nat} (hd : decode y.2.1 pc = .ok (.ifCond .eq off, 3)) (ht : (pc : Int) + off = (t : Int)) (kt : b = false → qX y d z cT sT t lv st h n ce sl Rp) (kf : b = true → qX y d z cT sT (pc + 3) lv st h n ce sl Rp) : qX y d z cT sT pc lv (.int (b2i b) :: st) h n ce sl Rp := qx_if_eq hd ht (fun q => kt ((b2i_0 b).mp q)) (fun q => kf (q_b1 q))
theorem qx_if_neB {b : Bool} {off : Int} {t : Nat} (hd : decode y.2.1 pc = .ok (.ifCond .ne off, 3)) (ht : (pc : Int) + off = (t : Int)) (kt : b = true → qX y d z cT sT t lv st h n ce sl Rp) (kf : b = false → qX y d z cT sT (pc + 3) lv st h n ce sl Rp) : qX y d z cT sT pc lv (.int (b2i b) :: st) h n ce sl Rp := qx_if_ne hd ht (fun q => kt (q_b1 q)) (fun q => kf ((b2i_0 b).mp q))
end QNAT
