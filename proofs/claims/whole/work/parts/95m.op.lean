/-! start: what both sides make of the rows is the same -/
theorem win_of {x : Int32} {a b : Nat} (hb : b < 2 ^ 31) (ha : a ≤ b) (h : decide (nI a ≤ x ∧ x ≤ nI b) = true) : ∃ k, a ≤ k ∧ k ≤ b ∧ x = nI k := by
  obtain ⟨h1, h2⟩ := of_decide_eq_true h
  rw [Int32.le_iff_toInt_le, nn_toInt (by omega)] at h1
  rw [Int32.le_iff_toInt_le, nn_toInt hb] at h2
  refine ⟨x.toInt.toNat, by omega, by omega, ?_⟩
  apply Int32.toInt_inj.mp
  rw [nn_toInt (by omega)]
  omega
theorem cnt_of {lm : Int32} {rs : Nat} (hr : rs ≤ 144) : ∃ cn, cn ≤ rs ∧ (if 0 ≤ lm ∧ lm < nI rs then lm else nI rs) = nI cn := by
  by_cases c : 0 ≤ lm ∧ lm < nI rs
  · obtain ⟨k, hk, e⟩ := in_of (show rs < 2 ^ 31 by omega) (decide_eq_true c)
    exact ⟨k, by omega, by rw [if_pos c, e]⟩
  · exact ⟨rs, Nat.le_refl _, by rw [if_neg c]⟩
theorem tP3_N {fm kd wc : Nat} {q0 q1 q2 q3 : Nat → Nat} {s : sT} (h0 : tN s = 0) : tN (tP3 fm kd wc q0 q1 q2 q3 s) = (if kd = 0 then wc else 3 * wc) + (if fm = 1 then wc else 0) := by
  have e2 := tP2_n (kd := kd) (wc := wc) (q0 := q0) (q1 := q1) (q2 := q2) h0
  unfold tP3
  by_cases e : fm = 1
  · rw [if_pos e, tAll_n, e2, if_pos e]
  · rw [if_neg e, e2, if_neg e, Nat.add_zero]
/-- kinds of the tasks: how many joins and groupings, and that scans come at once -/
theorem tAll_k {k : Nat} {q : Nat → Nat} {s : sT} : ∀ w, (∀ t, t < tN s → tK (tAll k q s w) t = tK s t) ∧ ∀ t, tN s ≤ t → t < tN s + w → tK (tAll k q s w) t = k
  | 0 => ⟨fun t _ => rfl, fun t h1 h2 => absurd h2 (by omega)⟩
  | w + 1 => by
    obtain ⟨i1, i2⟩ := tAll_k (k := k) (q := q) (s := s) w
    have en := tAll_n k q s w
    refine ⟨fun t ht => ?_, fun t h1 h2 => ?_⟩
    · show va_up (tK (tAll k q s w)) (tN (tAll k q s w)) k t = _
      rw [qun (by omega)]; exact i1 t ht
    · show va_up (tK (tAll k q s w)) (tN (tAll k q s w)) k t = _
      by_cases e : t = tN (tAll k q s w)
      · rw [e, qus]
      · rw [qun e]; exact i2 t h1 (by omega)
theorem cntB_add {f : Nat → Bool} {a : Nat} : ∀ b, cntB f (a + b) ≤ cntB f a + b
  | 0 => Nat.le_refl _
  | b + 1 => by
    have := cntB_add (f := f) (a := a) b
    show (if f (a + b) = true then cntB f (a + b) + 1 else cntB f (a + b)) ≤ _
    split <;> omega
theorem cntB_z {f : Nat → Bool} : ∀ n, (∀ k, k < n → f k = false) → cntB f n = 0
  | 0, _ => rfl
  | n + 1, h => by
    show (if f n = true then cntB f n + 1 else cntB f n) = 0
    rw [if_neg (by rw [h n (by omega)]; decide)]
    exact cntB_z n (fun k hk => h k (by omega))
theorem tP3_8 {fm kd wc : Nat} {q0 q1 q2 q3 : Nat → Nat} {s : sT} (h4 : wc ≤ 4) (h0 : tN s = 0) : cntB (fun t => decide (2 ≤ tK (tP3 fm kd wc q0 q1 q2 q3 s) t)) (tN (tP3 fm kd wc q0 q1 q2 q3 s)) ≤ 8 := by
  have a0 := tAll_k (k := 0) (q := q0) (s := s) wc
  have n0 := tAll_n 0 q0 s wc
  have a1 := tAll_k (k := 1) (q := q1) (s := tAll 0 q0 s wc) wc
  have n1 := tAll_n 1 q1 (tAll 0 q0 s wc) wc
  have a2 := tAll_k (k := 2) (q := q2) (s := tAll 1 q1 (tAll 0 q0 s wc) wc) wc
  have n2 := tAll_n 2 q2 (tAll 1 q1 (tAll 0 q0 s wc) wc) wc
  rw [tP3_N h0]
  by_cases ek : kd = 0
  · have e2 : tP2 kd wc q0 q1 q2 s = tAll 0 q0 s wc := by unfold tP2; rw [if_pos ek]
    rw [if_pos ek]
    refine Nat.le_trans (cntB_add (a := wc) _) ?_
    rw [cntB_z wc (fun t ht => ?_)]
    · split <;> omega
    · refine decide_eq_false ?_
      unfold tP3
      rw [e2]
      split
      · rw [(tAll_k (k := 3) (q := q3) (s := tAll 0 q0 s wc) wc).1 t (by omega), a0.2 t (by omega) (by omega)]; omega
      · rw [a0.2 t (by omega) (by omega)]; omega
  · have e2 : tP2 kd wc q0 q1 q2 s = tAll 2 q2 (tAll 1 q1 (tAll 0 q0 s wc) wc) wc := by unfold tP2; rw [if_neg ek]
    rw [if_neg ek, show 3 * wc + (if fm = 1 then wc else 0) = 2 * wc + (wc + (if fm = 1 then wc else 0)) by omega]
    refine Nat.le_trans (cntB_add (a := 2 * wc) _) ?_
    rw [cntB_z (2 * wc) (fun t ht => ?_)]
    · split <;> omega
    · refine decide_eq_false ?_
      have z : tK (tAll 2 q2 (tAll 1 q1 (tAll 0 q0 s wc) wc) wc) t < 2 := by
        rw [a2.1 t (by omega)]
        by_cases tw : t < wc
        · rw [a1.1 t (by omega), a0.2 t (by omega) (by omega)]; omega
        · rw [a1.2 t (by omega) (by omega)]; omega
      unfold tP3
      rw [e2]
      split
      · rw [(tAll_k (k := 3) (q := q3) (s := tAll 2 q2 (tAll 1 q1 (tAll 0 q0 s wc) wc) wc) wc).1 t (by omega)]; omega
      · omega
theorem ready_s {nt : Nat} {kt : Nat → Nat} {dn : Nat → Bool} {tm : Int32} {s : sJ} {n : Nat} : ∀ i, i ≤ nt → ∀ t, t < i → kt t < 2 → 0 < sAt (sReady kt dn n tm s i) t
  | 0, _, t, ht, _ => absurd ht (Nat.not_lt_zero _)
  | i + 1, hi, t, ht, hk => by
    have ih := ready_s (nt := nt) (kt := kt) (dn := dn) (tm := tm) (s := s) (n := n) i (by omega)
    unfold sReady
    by_cases e : t = i
    · subst e
      split
      · show 0 < va_up _ t _ t; rw [qus]; omega
      · next c =>
        rw [decide_eq_true hk, Bool.true_or, Bool.true_and] at c
        have : ¬ sAt (sReady kt dn n tm s t) t = 0 := fun q => c (decide_eq_true q)
        omega
    · split
      · show 0 < va_up _ i _ t; rw [qun e]; exact ih t (by omega) hk
      · exact ih t (by omega) hk
theorem cntB_all {f : Nat → Bool} : ∀ n, (∀ k, k < n → f k = true) → cntB f n = n
  | 0, _ => rfl
  | n + 1, h => by
    show (if f n = true then cntB f n + 1 else cntB f n) = n + 1
    rw [if_pos (h n (by omega)), cntB_all n (fun k hk => h k (by omega))]
theorem qF_c {tv : Nat → Int64} {tn : Nat → Bool} {CE : Nat → List xP} {nc kd wc fi se n1 n2 : Nat} {row row2 : Nat → Nat → Option Int64} {kp le : Nat} {gr : Option Nat} {OE : Nat → List xP} {ok : Nat → Nat} {no : Nat} (hle : le < 2) (hg : ∀ g, gr = some g → g < 4) (hr : ∀ k, k < kp → ∀ c, c < 4 → row k c = row2 k c) (k p : Nat) : qF tv tn CE nc kd wc fi se n1 n2 row kp le gr OE ok k p = qF tv tn CE nc kd wc fi se n1 n2 row2 kp le gr OE ok k p := by
  unfold qF
  by_cases e0 : k = 0
  · rw [if_pos e0, if_pos e0]
  · rw [if_neg e0, if_neg e0]
    by_cases e1 : k = 1
    · rw [if_pos e1, if_pos e1]
    · rw [if_neg e1, if_neg e1]
      by_cases e2 : k = 2
      · rw [if_pos e2, if_pos e2]
        exact cntB_c kp (fun q hq => by rw [hr q hq le (by omega)])
      · rw [if_neg e2, if_neg e2]
        cases gr with
        | none => rfl
        | some g =>
          show cntB (fun q => decide (pOf wc (rWv 1 (some g) OE ok row kp q 0) = p)) (rWn 1 (some g) row kp) = cntB (fun q => decide (pOf wc (rWv 1 (some g) OE ok row2 kp q 0) = p)) (rWn 1 (some g) row2 kp)
          rw [← rWn_c hg hr]
          refine cntB_c _ (fun q hq => ?_)
          have e : rWv 1 (some g) OE ok row kp q 0 = rWv 1 (some g) OE ok row2 kp q 0 := rWv_c (no := 0) (by omega) hg (fun z => by cases z) (fun o ho => absurd ho (Nat.not_lt_zero _)) hr q hq 0 (by show 0 < 1 + 0; omega)
          rw [e]
theorem row_st {ti : Nat → Int32} {tn : Nat → Bool} {fi se : Nat} {a b : sK} (h : stEq a b) : ∀ k, k < b.2.2 → ∀ c, c < 4 → rowK ti tn fi se a k c = rowK ti tn fi se b k c := fun k hk c _ => by
  have := h.2 k (by rw [h.1]; exact hk)
  unfold rowK
  rw [this.1, this.2]
theorem row_k {ti : Nat → Int32} {tn : Nat → Bool} {fi se : Nat} {b : sK} {kv : Nat → Int64} {kb : Nat → Bool} (h : kRep (jV (fun k => (ti k).toInt64) fi se) (jB tn fi se) kv kb b) : ∀ k, k < b.2.2 → ∀ c, c < 4 → kCell kv kb k c = rowK ti tn fi se b k c := fun k hk c hc => by
  have := h k hk c hc
  unfold kCell rowK jRow
  rw [this.1, this.2]
theorem fR_of {h : qH} {hb kb : Nat → Bool} {kp : Nat} (h1 : h.1 134 = iB hb) (h2 : h.1 136 = iB kb) (h3 : h.1 122 25 = nI kp) : fR h (h.2.1 133) hb (h.2.1 135) kb kp = h := by
  refine Prod.ext ?_ (Prod.ext ?_ rfl)
  · funext a
    show (if a = 134 then iB hb else if a = 136 then iB kb else if a = 122 then va_up (h.1 122) 25 (nI kp) else h.1 a) = h.1 a
    split
    · next e => rw [e, h1]
    · split
      · next e => rw [e, h2]
      · split
        · next e => rw [e, ← h3]; exact qv_self
        · rfl
  · funext a
    show (if a = 133 then h.2.1 133 else if a = 135 then h.2.1 135 else h.2.1 a) = h.2.1 a
    split
    · next e => rw [e]
    · split
      · next e => rw [e]
      · rfl
theorem vR_of {h : qH} {vb : Nat → Bool} {rs : Nat} (h1 : h.1 138 = iB vb) (h2 : h.1 122 28 = nI rs) : vR h (h.2.1 137) vb rs = h := by
  refine Prod.ext ?_ (Prod.ext ?_ rfl)
  · funext a
    show (if a = 138 then iB vb else if a = 122 then va_up (h.1 122) 28 (nI rs) else h.1 a) = h.1 a
    split
    · next e => rw [e, h1]
    · split
      · next e => rw [e, ← h2]; exact qv_self
      · rfl
  · funext a
    show (if a = 137 then h.2.1 137 else h.2.1 a) = h.2.1 a
    split
    · next e => rw [e]
    · rfl
