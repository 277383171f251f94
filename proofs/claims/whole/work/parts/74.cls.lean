/-! groups, over rows given as functions -/
def togR (gr : Option Nat) (row : Nat → Nat → Option Int64) (a b : Nat) : Bool := match gr with
  | none => true
  | some g => decide (row a g = row b g)
def gF (gr : Option Nat) (row : Nat → Nat → Option Int64) (kp j : Nat) : Nat := match gr with
  | none => 0
  | some g => (gIt (togR (some g) row) kp).2 j
def aggW (gr : Option Nat) (OE : Nat → List xP) (ok : Nat → Nat) (row : Nat → Nat → Option Int64) (kp k o : Nat) : Option Int64 := agR (ok o) (agL (ok o) (fun i => togR gr row i k) (fun i => xVal (row i) (OE o)) kp)
def gRowW (gr : Option Nat) (OE : Nat → List xP) (ok : Nat → Nat) (row : Nat → Nat → Option Int64) (kp k c : Nat) : Option Int64 := match gr with
  | none => aggW gr OE ok row kp k c
  | some g => if c = 0 then row k g else aggW gr OE ok row kp k (c - 1)
def rWn (fm : Nat) (gr : Option Nat) (row : Nat → Nat → Option Int64) (kp : Nat) : Nat := if fm = 0 then kp else match gr with
  | none => 1
  | some g => (gIt (togR (some g) row) kp).1
def rWv (fm : Nat) (gr : Option Nat) (OE : Nat → List xP) (ok : Nat → Nat) (row : Nat → Nat → Option Int64) (kp : Nat) : Nat → Nat → Option Int64 := if fm = 0 then (fun k q => xVal (row k) (OE q)) else fun i => gRowW gr OE ok row kp (gF gr row kp i)
theorem rWn_r {fm : Nat} {gr : Option Nat} {kv : Nat → Int64} {kb : Nat → Bool} {kp : Nat} : rRn fm gr kv kb kp = rWn fm gr (kCell kv kb) kp := by
  cases gr <;> rfl
theorem rWv_r {fm : Nat} {gr : Option Nat} {OE : Nat → List xP} {ok : Nat → Nat} {kv : Nat → Int64} {kb : Nat → Bool} {kp : Nat} : rRv fm gr OE ok kv kb kp = rWv fm gr OE ok (kCell kv kb) kp := by
  cases gr <;> rfl
theorem gRowW_o {gr : Option Nat} {OE : Nat → List xP} {ok : Nat → Nat} {row : Nat → Nat → Option Int64} {kp k o : Nat} : aggW gr OE ok row kp k o = gRowW gr OE ok row kp k (grS gr + o) := by
  cases gr with
  | none => show _ = aggW none OE ok row kp k (0 + o); rw [Nat.zero_add]
  | some g => show _ = if 1 + o = 0 then _ else aggW (some g) OE ok row kp k (1 + o - 1); rw [if_neg (by omega), Nat.add_sub_cancel_left]
theorem pigeon : ∀ (m n : Nat) (f : Nat → Nat), (∀ i, i < n → f i < m) → (∀ i, i < n → ∀ j, j < n → f i = f j → i = j) → n ≤ m
  | 0, n, f, h, _ => by
    by_cases e : n = 0
    · omega
    · exact absurd (h 0 (by omega)) (Nat.not_lt_zero _)
  | m + 1, n, f, h, hi => by
    by_cases q : ∃ i, i < n ∧ f i = m
    · obtain ⟨i, hin, him⟩ := q
      have := pigeon m (n - 1) (fun j => if j < i then f j else f (j + 1)) (fun j hj => by
        split
        · have h1 := h j (by omega)
          have h2 : f j ≠ m := fun e => by have := hi j (by omega) i hin (e.trans him.symm); omega
          omega
        · have h1 := h (j + 1) (by omega)
          have h2 : f (j + 1) ≠ m := fun e => by have := hi (j + 1) (by omega) i hin (e.trans him.symm); omega
          omega) (fun a ha b hb e => by
        split at e
        · split at e
          · exact hi a (by omega) b (by omega) e
          · have := hi a (by omega) (b + 1) (by omega) e; omega
        · split at e
          · have := hi (a + 1) (by omega) b (by omega) e; omega
          · have := hi (a + 1) (by omega) (b + 1) (by omega) e; omega)
      omega
    · have := pigeon m n f (fun i hin => by
        have h1 := h i hin
        have h2 : f i ≠ m := fun e => q ⟨i, hin, e⟩
        omega) hi
      omega
theorem fog_t {tg : Nat → Nat → Bool} {k : Nat} : ∀ {a : Nat}, (∀ i, i < a → tg i k = false) → fog tg k a = true
  | 0, _ => rfl
  | a + 1, h => by
    show (fog tg k a && !tg a k) = true
    rw [fog_t (fun i hi => h i (by omega)), h a (by omega)]
    rfl
theorem fog_f {tg : Nat → Nat → Bool} {k i : Nat} : ∀ {a : Nat}, i < a → tg i k = true → fog tg k a = false
  | 0, h, _ => absurd h (Nat.not_lt_zero _)
  | a + 1, h, e => by
    show (fog tg k a && !tg a k) = false
    by_cases q : i = a
    · subst q; rw [e]; simp
    · rw [fog_f (by omega) e]; rfl
theorem fog_at {tg : Nat → Nat → Bool} {k : Nat} : ∀ {a : Nat}, fog tg k a = true → ∀ i, i < a → tg i k = false
  | 0, _, i, hi => absurd hi (Nat.not_lt_zero _)
  | a + 1, h, i, hi => by
    have h : (fog tg k a && !tg a k) = true := h
    have h1 : fog tg k a = true := by cases q : fog tg k a <;> simp [q] at h ⊢
    have h2 : tg a k = false := by cases q : tg a k <;> simp [q] at h ⊢
    by_cases e : i = a
    · subst e; exact h2
    · exact fog_at h1 i (by omega)
/-- each group's first row, and that each row is in one group -/
theorem gIt_ok {cell : Nat → Option Int64} : ∀ k, (∀ j, j < (gIt (fun a b => decide (cell a = cell b)) k).1 → (gIt (fun a b => decide (cell a = cell b)) k).2 j < k) ∧ (∀ i, i < k → ∃ j, j < (gIt (fun a b => decide (cell a = cell b)) k).1 ∧ cell ((gIt (fun a b => decide (cell a = cell b)) k).2 j) = cell i) ∧ (∀ i, i < (gIt (fun a b => decide (cell a = cell b)) k).1 → ∀ j, j < (gIt (fun a b => decide (cell a = cell b)) k).1 → cell ((gIt (fun a b => decide (cell a = cell b)) k).2 i) = cell ((gIt (fun a b => decide (cell a = cell b)) k).2 j) → i = j)
  | 0 => ⟨fun j hj => absurd hj (Nat.not_lt_zero _), fun j hj => absurd hj (Nat.not_lt_zero _), fun j hj => absurd hj (Nat.not_lt_zero _)⟩
  | k + 1 => by
    obtain ⟨h1, h2, h3⟩ := gIt_ok (cell := cell) k
    have hs : gIt (fun a b => decide (cell a = cell b)) (k + 1) = if fog (fun a b => decide (cell a = cell b)) k k = true then ((gIt (fun a b => decide (cell a = cell b)) k).1 + 1, va_up (gIt (fun a b => decide (cell a = cell b)) k).2 (gIt (fun a b => decide (cell a = cell b)) k).1 k) else gIt (fun a b => decide (cell a = cell b)) k := rfl
    rw [hs]
    generalize gIt (fun a b => decide (cell a = cell b)) k = G at *
    split
    · next q =>
      have q2 := fog_at q
      dsimp only
      refine ⟨fun j hj => ?_, fun i hi => ?_, fun i hi j hj e => ?_⟩
      · by_cases e : j = G.1
        · subst e; rw [qus]; omega
        · rw [qun e]; have := h1 j (by omega); omega
      · by_cases e : i = k
        · subst e; exact ⟨G.1, by omega, by rw [qus]⟩
        · obtain ⟨j, hj, hc⟩ := h2 i (by omega)
          exact ⟨j, by omega, by rw [qun (by omega)]; exact hc⟩
      · have nk : ∀ j, j < G.1 → cell (G.2 j) ≠ cell k := fun j hj e => by
          have := q2 (G.2 j) (h1 j hj)
          exact absurd e (of_decide_eq_false this)
        by_cases ei : i = G.1
        · by_cases ej : j = G.1
          · omega
          · rw [ei, qus, qun ej] at e
            exact absurd e.symm (nk j (by omega))
        · by_cases ej : j = G.1
          · rw [ej, qus, qun ei] at e
            exact absurd e (nk i (by omega))
          · rw [qun ei, qun ej] at e
            exact h3 i (by omega) j (by omega) e
    · next q =>
      have q2 : fog (fun a b => decide (cell a = cell b)) k k = false := by
        cases z : fog (fun a b => decide (cell a = cell b)) k k
        · rfl
        · exact absurd z q
      refine ⟨fun j hj => by have := h1 j hj; omega, fun i hi => ?_, h3⟩
      by_cases e : i = k
      · subst e
        by_cases w : ∃ j, j < i ∧ cell j = cell i
        · obtain ⟨j, hj, hc⟩ := w
          obtain ⟨p, hp, hc2⟩ := h2 j hj
          exact ⟨p, hp, hc2.trans hc⟩
        · rw [fog_t (fun j hj => decide_eq_false (fun e => w ⟨j, hj, e⟩))] at q2
          cases q2
      · exact h2 i (by omega)
theorem gIt_13 {cell : Nat → Option Int64} {code : Nat → Nat} {F : Nat → Option Int64} {K k : Nat} (hk : k ≤ K) (hc : ∀ a, a < K → code a < 13 ∧ cell a = F (code a)) : (gIt (fun a b => decide (cell a = cell b)) k).1 ≤ 13 := by
  obtain ⟨h1, h2, h3⟩ := gIt_ok (cell := cell) k
  refine pigeon 13 _ (fun j => code ((gIt (fun a b => decide (cell a = cell b)) k).2 j)) (fun i hi => (hc _ (by have := h1 i hi; omega)).1) (fun i hi j hj e => ?_)
  refine h3 i hi j hj ?_
  rw [(hc _ (show (gIt (fun a b => decide (cell a = cell b)) k).2 i < K by have := h1 i hi; omega)).2, (hc _ (show (gIt (fun a b => decide (cell a = cell b)) k).2 j < K by have := h1 j hj; omega)).2]
  exact congrArg F e
