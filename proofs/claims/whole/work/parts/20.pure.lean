/-! WHAT AN EXPRESSION MEANS (pure). A part is (code, operand): 0..9 an operation, 10 a column (operand: which), 11 a number. A value: none is NULL (of a truth: UNKNOWN); a truth is some 0 or some 1. The stack's top is the list's head; an entry says whether it is a truth. -/
abbrev xP : Type := Nat × Int64
abbrev xV : Type := Bool × Option Int64
def xMIN : Int64 := -9223372036854775808
/-- is p op q a long? -/
def xLong (op : Nat) (p q : Int64) : Bool :=
  if op = 0 then decide (0 ≤ (p ^^^ (p + q)) &&& (q ^^^ (p + q)))
  else if op = 1 then decide (0 ≤ (p ^^^ q) &&& (p ^^^ (p - q)))
  else if op = 2 then (if q = 0 ∨ q = -1 then decide (q = 0 ∨ ¬ p = xMIN) else decide (p * q / q = p))
  else decide (¬ q = 0 ∧ (¬ q = -1 ∨ ¬ p = xMIN))
def xCalc (op : Nat) (p q : Int64) : Int64 := if op = 0 then p + q else if op = 1 then p - q else if op = 2 then p * q else p / q
def xOp (op : Nat) (p q : Option Int64) : Option Int64 :=
  if op = 6 ∨ op = 7 then
    (if p = some (if op = 7 then 1 else 0) ∨ q = some (if op = 7 then 1 else 0) then some (if op = 7 then 1 else 0)
     else if p = none ∨ q = none then none else some (1 - (if op = 7 then 1 else 0)))
  else match p, q with
    | some a, some b => if op = 4 then some (if a = b then 1 else 0) else if op = 5 then some (if a < b then 1 else 0) else if xLong op a b then some (xCalc op a b) else none
    | _, _ => none
def xS (row : Nat → Option Int64) (st : List xV) (p : xP) : List xV :=
  if p.1 = 10 then (false, row p.2.toInt.toNat) :: st
  else if p.1 = 11 then (false, some p.2) :: st
  else match st with
    | [] => []
    | v :: r =>
      if p.1 = 8 then (true, v.2.map (fun x => 1 - x)) :: r
      else if p.1 = 9 then (true, some (if v.2 = none then 1 else 0)) :: r
      else match r with
        | [] => [v]
        | w :: r => (decide (4 ≤ p.1), xOp p.1 w.2 v.2) :: r
def xE (row : Nat → Option Int64) (st : List xV) (e : List xP) : List xV := e.foldl (xS row) st
/-- its types: none if it is ill made, or nests deeper than m -/
def xT1 (m : Nat) (ts : List Bool) (p : xP) : Option (List Bool) :=
  if p.1 = 10 then (if 0 ≤ p.2.toInt ∧ p.2.toInt < 4 ∧ ts.length < m then some (false :: ts) else none)
  else if p.1 = 11 then (if ts.length < m then some (false :: ts) else none)
  else match ts with
    | [] => none
    | t :: r =>
      if p.1 = 8 then (if t = true then some (true :: r) else none)
      else if p.1 = 9 then (if t = false then some (true :: r) else none)
      else match r with
        | [] => none
        | u :: r => if p.1 < 8 ∧ t = decide (6 ≤ p.1) ∧ u = decide (6 ≤ p.1) then some (decide (4 ≤ p.1) :: r) else none
def xT (m : Nat) : List Bool → List xP → Option (List Bool)
  | ts, [] => some ts
  | ts, p :: e => (xT1 m ts p).bind (fun ts => xT m ts e)
theorem xT_app (m : Nat) : ∀ (e f : List xP) (ts : List Bool), xT m ts (e ++ f) = (xT m ts e).bind (fun ts => xT m ts f)
  | [], f, ts => rfl
  | p :: e, f, ts => by
    show (xT1 m ts p).bind _ = ((xT1 m ts p).bind _).bind _
    cases xT1 m ts p with
    | none => rfl
    | some ts1 => exact xT_app m e f ts1
theorem xT1_frame {m k : Nat} {ts ts' ex : List Bool} {p : xP} (hk : ex.length ≤ k) (h : xT1 m ts p = some ts') : xT1 (m + k) (ts ++ ex) p = some (ts' ++ ex) := by
  unfold xT1 at h ⊢
  by_cases h10 : p.1 = 10
  · rw [if_pos h10] at h ⊢
    split at h
    · next hc =>
      rw [if_pos ⟨hc.1, hc.2.1, by rw [List.length_append]; omega⟩]
      cases h
      rfl
    · cases h
  · rw [if_neg h10] at h ⊢
    by_cases h11 : p.1 = 11
    · rw [if_pos h11] at h ⊢
      split at h
      · next hc =>
        rw [if_pos (by rw [List.length_append]; omega)]
        cases h
        rfl
      · cases h
    · rw [if_neg h11] at h ⊢
      cases ts with
      | nil => cases h
      | cons t r =>
        rw [List.cons_append]
        dsimp only at h ⊢
        by_cases h8 : p.1 = 8
        · rw [if_pos h8] at h ⊢
          split at h
          · next hc => rw [if_pos hc]; cases h; rfl
          · cases h
        · rw [if_neg h8] at h ⊢
          by_cases h9 : p.1 = 9
          · rw [if_pos h9] at h ⊢
            split at h
            · next hc => rw [if_pos hc]; cases h; rfl
            · cases h
          · rw [if_neg h9] at h ⊢
            cases r with
            | nil => cases h
            | cons u r =>
              rw [List.cons_append]
              dsimp only at h ⊢
              split at h
              · next hc => rw [if_pos hc]; cases h; rfl
              · cases h
theorem xT_frame {m k : Nat} {ex : List Bool} (hk : ex.length ≤ k) : ∀ (e : List xP) (ts ts' : List Bool), xT m ts e = some ts' → xT (m + k) (ts ++ ex) e = some (ts' ++ ex)
  | [], ts, ts', h => by cases h; rfl
  | p :: e, ts, ts', h => by
    have h : (xT1 m ts p).bind (fun ts => xT m ts e) = some ts' := h
    show (xT1 (m + k) (ts ++ ex) p).bind (fun ts => xT (m + k) ts e) = _
    cases h1 : xT1 m ts p with
    | none => rw [h1] at h; cases h
    | some ts1 =>
      rw [h1] at h
      rw [xT1_frame hk h1]
      exact xT_frame hk e ts1 ts' h
/-- two expressions of the stack and an operation behind them -/
theorem xT_two {m : Nat} {e f : List xP} {t u : Bool} {op : Nat} (h1 : xT (m + 1) [] e = some [t]) (h2 : xT m [] f = some [u]) (ho : op < 8) (ht : t = decide (6 ≤ op)) (hu : u = decide (6 ≤ op)) : xT (m + 1) [] (e ++ f ++ [(op, 0)]) = some [decide (4 ≤ op)] := by
  rw [xT_app, xT_app, h1]
  show ((xT (m + 1) [t] f).bind _) = _
  have := xT_frame (k := 1) (ex := [t]) (by simp) f [] [u] h2
  rw [List.nil_append] at this
  rw [this]
  show xT (m + 1) [u, t] [(op, 0)] = _
  show (xT1 (m + 1) [u, t] (op, 0)).bind _ = _
  have h10 : ¬ op = 10 := by omega
  have h11 : ¬ op = 11 := by omega
  have h8 : ¬ op = 8 := by omega
  have h9 : ¬ op = 9 := by omega
  simp only [xT1, h10, h11, h8, h9, if_false]
  rw [if_pos ⟨ho, hu, ht⟩]
  rfl
theorem xT_one {m : Nat} {e : List xP} {t : Bool} {op : Nat} (h1 : xT m [] e = some [t]) (ho : op = 8 ∨ op = 9) (ht : t = decide (op = 8)) : xT m [] (e ++ [(op, 0)]) = some [true] := by
  rw [xT_app, h1]
  show (xT1 m [t] (op, 0)).bind _ = _
  rcases ho with rfl | rfl
  · subst ht; rfl
  · subst ht; rfl
/-- the types of the stack are those of its type list -/
theorem xS_ty {m : Nat} {row : Nat → Option Int64} {st : List xV} {p : xP} {ts : List Bool} (h : xT1 m (st.map (fun v => v.1)) p = some ts) : (xS row st p).map (fun v => v.1) = ts := by
  unfold xT1 at h
  unfold xS
  by_cases h10 : p.1 = 10
  · rw [if_pos h10] at h ⊢
    split at h
    · cases h; rfl
    · cases h
  · rw [if_neg h10] at h ⊢
    by_cases h11 : p.1 = 11
    · rw [if_pos h11] at h ⊢
      split at h
      · cases h; rfl
      · cases h
    · rw [if_neg h11] at h ⊢
      cases st with
      | nil => cases h
      | cons v r =>
        rw [List.map_cons] at h
        dsimp only at h ⊢
        by_cases h8 : p.1 = 8
        · rw [if_pos h8] at h ⊢
          split at h
          · cases h; rfl
          · cases h
        · rw [if_neg h8] at h ⊢
          by_cases h9 : p.1 = 9
          · rw [if_pos h9] at h ⊢
            split at h
            · cases h; rfl
            · cases h
          · rw [if_neg h9] at h ⊢
            cases r with
            | nil => cases h
            | cons w r =>
              rw [List.map_cons] at h
              dsimp only at h ⊢
              split at h
              · cases h; rfl
              · cases h
/-- a truth is none, some 0 or some 1 -/
def xTr (v : xV) : Prop := v.1 = true → v.2 = none ∨ v.2 = some 0 ∨ v.2 = some 1
theorem xOp_tr (op : Nat) (p q : Option Int64) (h4 : 4 ≤ op) (h8 : op < 8) : xOp op p q = none ∨ xOp op p q = some 0 ∨ xOp op p q = some 1 := by
  have h : op = 4 ∨ op = 5 ∨ op = 6 ∨ op = 7 := by omega
  rcases h with rfl | rfl | rfl | rfl
  · cases p with
    | none => exact Or.inl rfl
    | some a =>
      cases q with
      | none => exact Or.inl rfl
      | some b =>
        show (some (if a = b then (1 : Int64) else 0) : Option Int64) = none ∨ _ = some 0 ∨ _ = some 1
        by_cases e : a = b
        · exact Or.inr (Or.inr (by show some (if a = b then (1 : Int64) else 0) = _; rw [if_pos e]))
        · exact Or.inr (Or.inl (by show some (if a = b then (1 : Int64) else 0) = _; rw [if_neg e]))
  · cases p with
    | none => exact Or.inl rfl
    | some a =>
      cases q with
      | none => exact Or.inl rfl
      | some b =>
        by_cases e : a < b
        · exact Or.inr (Or.inr (by show some (if a < b then (1 : Int64) else 0) = _; rw [if_pos e]))
        · exact Or.inr (Or.inl (by show some (if a < b then (1 : Int64) else 0) = _; rw [if_neg e]))
  · show (if p = some 0 ∨ q = some 0 then some (0 : Int64) else if p = none ∨ q = none then none else some (1 - 0)) = none ∨ (if p = some 0 ∨ q = some 0 then some (0 : Int64) else if p = none ∨ q = none then none else some (1 - 0)) = some 0 ∨ (if p = some 0 ∨ q = some 0 then some (0 : Int64) else if p = none ∨ q = none then none else some (1 - 0)) = some 1
    by_cases e1 : p = some 0 ∨ q = some 0
    · rw [if_pos e1]; exact Or.inr (Or.inl rfl)
    · rw [if_neg e1]
      by_cases e2 : p = none ∨ q = none
      · rw [if_pos e2]; exact Or.inl rfl
      · rw [if_neg e2]; exact Or.inr (Or.inr rfl)
  · show (if p = some 1 ∨ q = some 1 then some (1 : Int64) else if p = none ∨ q = none then none else some (1 - 1)) = none ∨ (if p = some 1 ∨ q = some 1 then some (1 : Int64) else if p = none ∨ q = none then none else some (1 - 1)) = some 0 ∨ (if p = some 1 ∨ q = some 1 then some (1 : Int64) else if p = none ∨ q = none then none else some (1 - 1)) = some 1
    by_cases e1 : p = some 1 ∨ q = some 1
    · rw [if_pos e1]; exact Or.inr (Or.inr rfl)
    · rw [if_neg e1]
      by_cases e2 : p = none ∨ q = none
      · rw [if_pos e2]; exact Or.inl rfl
      · rw [if_neg e2]; exact Or.inr (Or.inl rfl)
theorem xS_tr {m : Nat} {row : Nat → Option Int64} {st : List xV} {p : xP} {ts : List Bool} (h : xT1 m (st.map (fun v => v.1)) p = some ts) (ha : ∀ v ∈ st, xTr v) : ∀ v ∈ xS row st p, xTr v := by
  unfold xT1 at h
  unfold xS
  by_cases h10 : p.1 = 10
  · rw [if_pos h10]
    exact List.forall_mem_cons.mpr ⟨fun q => (by cases q), ha⟩
  · rw [if_neg h10] at h ⊢
    by_cases h11 : p.1 = 11
    · rw [if_pos h11]
      exact List.forall_mem_cons.mpr ⟨fun q => (by cases q), ha⟩
    · rw [if_neg h11] at h ⊢
      cases st with
      | nil => cases h
      | cons v r =>
        rw [List.map_cons] at h
        dsimp only at h ⊢
        obtain ⟨hv, hr⟩ := List.forall_mem_cons.mp ha
        by_cases h8 : p.1 = 8
        · rw [if_pos h8] at h ⊢
          split at h
          · next hc =>
            refine List.forall_mem_cons.mpr ⟨fun _ => ?_, hr⟩
            rcases hv hc with e | e | e <;> rw [e]
            · exact Or.inl rfl
            · exact Or.inr (Or.inr rfl)
            · exact Or.inr (Or.inl rfl)
          · cases h
        · rw [if_neg h8] at h ⊢
          by_cases h9 : p.1 = 9
          · rw [if_pos h9]
            refine List.forall_mem_cons.mpr ⟨fun _ => ?_, hr⟩
            dsimp only
            split
            · exact Or.inr (Or.inr rfl)
            · exact Or.inr (Or.inl rfl)
          · rw [if_neg h9] at h ⊢
            cases r with
            | nil => cases h
            | cons w r =>
              rw [List.map_cons] at h
              dsimp only at h ⊢
              split at h
              · next hc =>
                refine List.forall_mem_cons.mpr ⟨fun q => ?_, fun x hx => hr x (List.mem_cons_of_mem _ hx)⟩
                have h4 : 4 ≤ p.1 := by simpa using q
                exact xOp_tr p.1 w.2 v.2 h4 hc.1
              · cases h
/-! numbers of 64 bits (pure) -/
theorem pn_mulneg {p : Int64} (h : ¬ p = xMIN) : (p * (-1)).toInt = -p.toInt := by
  have h1 := Int64.le_toInt p
  have h2 := Int64.toInt_lt p
  have h3 : p.toInt ≠ -9223372036854775808 := fun e => h (Int64.toInt_inj.mp (by rw [e]; decide))
  have h4 : (-1 : Int64).toInt = -1 := by decide
  rw [Int64.toInt_mul, h4, Int.bmod_def]
  split <;> omega
theorem pn_negdiv {p : Int64} (h : ¬ p = xMIN) : p * (-1) / (-1) = p := by
  have h1 := Int64.le_toInt p
  have h2 := Int64.toInt_lt p
  have h4 : (-1 : Int64).toInt = -1 := by decide
  refine Int64.toInt_inj.mp ?_
  rw [Int64.toInt_div, pn_mulneg h, h4]
  have h5 : (-p.toInt).tdiv (-1) = p.toInt := by simp
  rw [h5, Int.bmod_def]
  split <;> omega
/-- the reference's test of a product -/
theorem pn_mul (p q : Int64) : xLong 2 p q = true ↔ (p = 0 ∨ q = 0) ∨ ¬ ((p = xMIN ∧ q = -1) ∨ (q = xMIN ∧ p = -1) ∨ ¬ p * q / q = p) := by
  have e : xLong 2 p q = (if q = 0 ∨ q = -1 then decide (q = 0 ∨ ¬ p = xMIN) else decide (p * q / q = p)) := rfl
  rw [e]
  by_cases hq0 : q = 0
  · simp [hq0]
  · by_cases hq1 : q = -1
    · subst hq1
      have hm : ¬ ((-1 : Int64) = xMIN) := by decide
      by_cases hp : p = xMIN
      · subst hp
        have : ¬ (xMIN = 0) := by decide
        simp [this]
      · have := pn_negdiv hp
        simp [hp, this, hm]
    · by_cases hp : p = 0
      · subst hp
        have h0 : (0 : Int64) * q / q = 0 := by simp
        simp [hq0, hq1, h0]
      · by_cases h2 : q = xMIN ∧ p = -1
        · obtain ⟨rfl, rfl⟩ := h2
          decide
        · simp only [hq0, hq1, hp, h2, if_false, false_or, or_false, and_false, decide_eq_true_eq, Classical.not_not]
