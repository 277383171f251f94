/-! the sum in two halves, least and greatest: the class's aggregate against the reference's -/
theorem bv_m32 (i : Nat) : (4294967295#64).getLsbD i = decide (i < 32) := by
  rw [show (4294967295#64) = BitVec.ofNat 64 (2 ^ 32 - 1) from rfl, BitVec.getLsbD_ofNat, Nat.testBit_two_pow_sub_one]
  by_cases h : i < 32
  · simp [h]; omega
  · simp [h]
theorem bv_sum (x y : BitVec 64) : (x <<< 32) + y = ((x + y.sshiftRight 32) <<< 32) ||| (y &&& 4294967295#64) := by
  have hd : ((x + y.sshiftRight 32) <<< 32) &&& (y &&& 4294967295#64) = 0#64 := by
    apply BitVec.eq_of_getLsbD_eq
    intro i hi
    simp only [BitVec.getLsbD_and, BitVec.getLsbD_shiftLeft, bv_m32]
    by_cases h : i < 32 <;> simp [h]
  rw [← BitVec.add_eq_or_of_and_eq_zero _ _ hd]
  have hs : (y.sshiftRight 32) <<< 32 + (y &&& 4294967295#64) = y := by
    rw [BitVec.add_eq_or_of_and_eq_zero]
    · apply BitVec.eq_of_getLsbD_eq
      intro i hi
      simp only [BitVec.getLsbD_or, BitVec.getLsbD_and, BitVec.getLsbD_shiftLeft, BitVec.getLsbD_sshiftRight, bv_m32]
      by_cases h : i < 32
      · simp [h]
      · have e : 32 + (i - 32) = i := by omega
        simp [h, hi, e]
        omega
    · apply BitVec.eq_of_getLsbD_eq
      intro i hi
      simp only [BitVec.getLsbD_and, BitVec.getLsbD_shiftLeft, bv_m32]
      by_cases h : i < 32 <;> simp [h]
  have hx : (x + y.sshiftRight 32) <<< 32 = x <<< 32 + (y.sshiftRight 32) <<< 32 := by
    apply BitVec.eq_of_toNat_eq
    simp only [BitVec.toNat_shiftLeft, BitVec.toNat_add, Nat.shiftLeft_eq]
    omega
  rw [hx, BitVec.add_assoc, hs]
theorem lg_sum (hi lo : Int64) : (hi <<< S32) + lo = ((hi + (lo >>> S32)) <<< S32) ||| (lo &&& M32) := by
  refine Int64.toBitVec_inj.mp ?_
  have e := bv_sum hi.toBitVec lo.toBitVec
  rw [Int64.toBitVec_add, Int64.toBitVec_or, Int64.toBitVec_and, Int64.toBitVec_shiftLeft, Int64.toBitVec_shiftLeft, Int64.toBitVec_add, Int64.toBitVec_shiftRight]
  exact e
theorem has_iff (H : Int64) : H = H.toInt32.toInt64 ↔ (-2147483648 ≤ H ∧ H ≤ 2147483647) := by
  rw [Int64.le_iff_toInt_le, Int64.le_iff_toInt_le, show (-2147483648 : Int64).toInt = -2147483648 by decide, show (2147483647 : Int64).toInt = 2147483647 by decide]
  constructor
  · intro h
    have h1 := H.toInt32.le_toInt
    have h2 := H.toInt32.toInt_lt
    rw [h, Int32.toInt_toInt64]
    omega
  · intro h
    apply Int64.toInt_inj.mp
    rw [Int32.toInt_toInt64, Int64.toInt_toInt32, Int.bmod_eq_of_le (by omega) (by omega)]
def aRel (w : Nat) (S : sC) (a : sA) : Prop := sC.r S = lN a.1 ∧ (w ≠ 1 → sC.n S = lN a.2.1 ∧ sC.hi S = a.2.2.1 ∧ sC.lo S = a.2.2.2.1 ∧ (a.2.1 = 0 → sC.le S = xMAX ∧ sC.gr S = xMIN) ∧ (0 < a.2.1 → (w = 4 → sC.le S = a.2.2.2.2) ∧ (w ≠ 4 → sC.gr S = a.2.2.2.2)))
theorem aRel_0 (w : Nat) : aRel w sC0 (0, 0, 0, 0, 0) := ⟨rfl, fun _ => ⟨rfl, rfl, rfl, fun _ => ⟨rfl, rfl⟩, fun h => absurd h (Nat.not_lt_zero _)⟩⟩
theorem le_max (v : Int64) : (if xMAX ≤ v then xMAX else v) = v := by
  split
  · next h =>
    apply Int64.toInt_inj.mp
    rw [Int64.le_iff_toInt_le] at h
    have h2 := v.toInt_lt
    have e : xMAX.toInt = 9223372036854775807 := by decide
    rw [e] at h ⊢
    omega
  · rfl
theorem lt_min (v : Int64) : (if xMIN < v then v else xMIN) = v := by
  split
  · rfl
  · next h =>
    apply Int64.toInt_inj.mp
    rw [Int64.lt_iff_toInt_lt] at h
    have h2 := v.le_toInt
    have e : xMIN.toInt = -9223372036854775808 := by decide
    rw [e] at h ⊢
    omega
theorem if_le (a v : Int64) : (if a ≤ v then a else v) = (if v < a then v else a) := by
  by_cases h : a ≤ v
  · rw [if_pos h, if_neg (fun q => absurd h (Int64.not_le.mpr q))]
  · rw [if_neg h, if_pos (Int64.not_le.mp h)]
theorem aRel_S {w : Nat} {S : sC} {a : sA} {x : Option Int64} (h : aRel w S a) : aRel w (cAdd S x) (agS w a x) := by
  obtain ⟨h1, h2⟩ := h
  by_cases hw : w = 1
  · rw [agS_1 hw]
    refine ⟨?_, fun q => absurd hw q⟩
    have e : sC.r (cAdd S x) = sC.r S + 1 := by cases x <;> rfl
    rw [e, h1]
    exact lN_1 _
  · obtain ⟨n1, n2, n3, n4, n5⟩ := h2 hw
    cases x with
    | none =>
      rw [agS_n hw rfl]
      exact ⟨by show sC.r S + 1 = _; rw [h1]; exact lN_1 _, fun _ => ⟨n1, n2, n3, n4, n5⟩⟩
    | some v =>
      rw [agS_s hw rfl]
      refine ⟨by show sC.r S + 1 = _; rw [h1]; exact lN_1 _, fun _ => ⟨by show sC.n S + 1 = _; rw [n1]; exact lN_1 _, by show sC.hi S + (v >>> S32) = _; rw [n2]; rfl, by show sC.lo S + (v &&& M32) = _; rw [n3]; rfl, fun e => absurd e (Nat.succ_ne_zero _), fun _ => ⟨fun w4 => ?_, fun w4 => ?_⟩⟩⟩
      · show (if sC.le S ≤ v then sC.le S else v) = (if a.2.1 = 0 ∨ (w = 4 ∧ v < a.2.2.2.2) ∨ (w ≠ 4 ∧ a.2.2.2.2 < v) then v else a.2.2.2.2)
        by_cases e0 : a.2.1 = 0
        · rw [if_pos (Or.inl e0), (n4 e0).1]
          exact le_max v
        · rw [(n5 (by omega)).1 w4, if_le]
          by_cases e1 : v < a.2.2.2.2
          · rw [if_pos e1, if_pos (Or.inr (Or.inl ⟨w4, e1⟩))]
          · rw [if_neg e1, if_neg (fun q => q.elim e0 (fun q => q.elim (fun q => e1 q.2) (fun q => q.1 w4)))]
      · show (if sC.gr S < v then v else sC.gr S) = (if a.2.1 = 0 ∨ (w = 4 ∧ v < a.2.2.2.2) ∨ (w ≠ 4 ∧ a.2.2.2.2 < v) then v else a.2.2.2.2)
        by_cases e0 : a.2.1 = 0
        · rw [if_pos (Or.inl e0), (n4 e0).2]
          exact lt_min v
        · rw [(n5 (by omega)).2 w4]
          by_cases e1 : a.2.2.2.2 < v
          · rw [if_pos e1, if_pos (Or.inr (Or.inr ⟨w4, e1⟩))]
          · rw [if_neg e1, if_neg (fun q => q.elim e0 (fun q => q.elim (fun q => w4 q.1) (fun q => e1 q.2)))]
theorem aRel_end {w : Nat} {S : sC} {a : sA} (h : aRel w S a) (h0 : w ≠ 0) (h6 : w < 6) (hb : a.2.1 ≤ 144) : (if cNul S w = true then none else some (cVal S w)) = agR w a := by
  obtain ⟨h1, h2⟩ := h
  have e : w = 1 ∨ w = 2 ∨ w = 3 ∨ w = 4 ∨ w = 5 := by omega
  have hz : w ≠ 1 → (sC.n S = 0 ↔ a.2.1 = 0) := fun q => by
    rw [(h2 q).1]
    exact lN_eq (b := 0) (by omega) (by omega)
  rcases e with rfl | rfl | rfl | rfl | rfl
  · show some (sC.r S) = some (lN a.1)
    rw [h1]
  · show some (sC.n S) = some (lN a.2.1)
    rw [(h2 (by omega)).1]
  · obtain ⟨n1, n2, n3, n4, n5⟩ := h2 (by omega)
    have hz := hz (by omega)
    have eH : cHas S = decide (-2147483648 ≤ agH a ∧ agH a ≤ 2147483647) := by
      unfold cHas
      rw [n2, n3]
      exact decide_eq_decide.mpr (has_iff _)
    show (if (decide (sC.n S = 0) || (true && !cHas S)) = true then none else some ((sC.hi S <<< S32) + sC.lo S)) = (if a.2.1 = 0 ∨ ¬ (-2147483648 ≤ agH a ∧ agH a ≤ 2147483647) then none else some ((agH a <<< S32) ||| (a.2.2.2.1 &&& M32)))
    rw [eH, n2, n3, lg_sum, decide_eq_decide.mpr hz]
    by_cases c1 : a.2.1 = 0
    · rw [if_pos (Or.inl c1), decide_eq_true c1]
      rfl
    · by_cases c2 : -2147483648 ≤ agH a ∧ agH a ≤ 2147483647
      · rw [decide_eq_false c1, decide_eq_true c2, if_neg (show ¬ (a.2.1 = 0 ∨ ¬ (-2147483648 ≤ agH a ∧ agH a ≤ 2147483647)) from fun q => q.elim c1 (fun q => q c2))]
        rfl
      · rw [if_pos (Or.inr c2), decide_eq_false c1, decide_eq_false c2]
        rfl
  · obtain ⟨n1, n2, n3, n4, n5⟩ := h2 (by omega)
    have hz := hz (by omega)
    show (if (decide (sC.n S = 0) || (false && _)) = true then none else some (sC.le S)) = (if a.2.1 = 0 then none else some a.2.2.2.2)
    rw [Bool.false_and, Bool.or_false, decide_eq_decide.mpr hz]
    by_cases c1 : a.2.1 = 0
    · rw [if_pos c1, decide_eq_true c1]; rfl
    · rw [if_neg c1, decide_eq_false c1, (n5 (by omega)).1 rfl]; rfl
  · obtain ⟨n1, n2, n3, n4, n5⟩ := h2 (by omega)
    have hz := hz (by omega)
    show (if (decide (sC.n S = 0) || (false && _)) = true then none else some (sC.gr S)) = (if a.2.1 = 0 then none else some a.2.2.2.2)
    rw [Bool.false_and, Bool.or_false, decide_eq_decide.mpr hz]
    by_cases c1 : a.2.1 = 0
    · rw [if_pos c1, decide_eq_true c1]; rfl
    · rw [if_neg c1, decide_eq_false c1, (n5 (by omega)).2 (by omega)]; rfl
