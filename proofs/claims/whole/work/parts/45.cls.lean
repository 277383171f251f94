/-! the class's aggregate: rows, numbers, high, low, least, greatest -/
abbrev sC : Type := Int64 × Int64 × Int64 × Int64 × Int64 × Int64
abbrev sC.r (s : sC) : Int64 := s.1
abbrev sC.n (s : sC) : Int64 := s.2.1
abbrev sC.hi (s : sC) : Int64 := s.2.2.1
abbrev sC.lo (s : sC) : Int64 := s.2.2.2.1
abbrev sC.le (s : sC) : Int64 := s.2.2.2.2.1
abbrev sC.gr (s : sC) : Int64 := s.2.2.2.2.2
def xMAX : Int64 := 9223372036854775807
def sC0 : sC := ⟨0, 0, 0, 0, xMAX, xMIN⟩
def cAdd (s : sC) (x : Option Int64) : sC := match x with
  | none => ((sC.r s) + 1, s.2)
  | some v => ⟨(sC.r s) + 1, (sC.n s) + 1, (sC.hi s) + (v >>> S32), (sC.lo s) + (v &&& M32), if (sC.le s) ≤ v then (sC.le s) else v, if (sC.gr s) < v then v else (sC.gr s)⟩
def aRow (f : Nat → Int64) (s : sC) (i : Nat) : Int64 := match i with
  | 0 => (sC.r s)
  | 1 => (sC.n s)
  | 2 => (sC.hi s)
  | 3 => (sC.lo s)
  | 4 => (sC.le s)
  | 5 => (sC.gr s)
  | i => f i
def aR (h : qH) (s : sC) : qH := (h.1, va_up h.2.1 64 (aRow (h.2.1 64) s), h.2.2)
theorem aRow_of (f : Nat → Int64) : aRow f ⟨f 0, f 1, f 2, f 3, f 4, f 5⟩ = f := by
  funext i
  rcases i with _ | _ | _ | _ | _ | _ | i <;> rfl
theorem aR_of (h : qH) : aR h ⟨h.2.1 64 0, h.2.1 64 1, h.2.1 64 2, h.2.1 64 3, h.2.1 64 4, h.2.1 64 5⟩ = h := by
  unfold aR
  rw [aRow_of, qv_self]
theorem aR_put {h : qH} {s s2 : sC} {k : Nat} {v : Int64} (e : va_up (aRow (h.2.1 64) s) k v = aRow (h.2.1 64) s2) : qpL (aR h s) 64 k v = aR h s2 := by
  unfold aR qpL
  dsimp only
  rw [qv_up, qus, e]
theorem aR_r {h : qH} {s : sC} {v : Int64} : qpL (aR h s) 64 0 v = aR h (v, (sC.n s), (sC.hi s), (sC.lo s), (sC.le s), (sC.gr s)) := by
  refine aR_put ?_
  funext i
  by_cases e : i = 0
  · subst e; exact qus
  · rw [qun e]
    rcases i with _ | _ | _ | _ | _ | _ | i <;> first | rfl | exact absurd rfl e
theorem aR_n {h : qH} {s : sC} {v : Int64} : qpL (aR h s) 64 1 v = aR h ((sC.r s), v, (sC.hi s), (sC.lo s), (sC.le s), (sC.gr s)) := by
  refine aR_put ?_
  funext i
  by_cases e : i = 1
  · subst e; exact qus
  · rw [qun e]
    rcases i with _ | _ | _ | _ | _ | _ | i <;> first | rfl | exact absurd rfl e
theorem aR_hi {h : qH} {s : sC} {v : Int64} : qpL (aR h s) 64 2 v = aR h ((sC.r s), (sC.n s), v, (sC.lo s), (sC.le s), (sC.gr s)) := by
  refine aR_put ?_
  funext i
  by_cases e : i = 2
  · subst e; exact qus
  · rw [qun e]
    rcases i with _ | _ | _ | _ | _ | _ | i <;> first | rfl | exact absurd rfl e
theorem aR_lo {h : qH} {s : sC} {v : Int64} : qpL (aR h s) 64 3 v = aR h ((sC.r s), (sC.n s), (sC.hi s), v, (sC.le s), (sC.gr s)) := by
  refine aR_put ?_
  funext i
  by_cases e : i = 3
  · subst e; exact qus
  · rw [qun e]
    rcases i with _ | _ | _ | _ | _ | _ | i <;> first | rfl | exact absurd rfl e
theorem aR_le {h : qH} {s : sC} {v : Int64} : qpL (aR h s) 64 4 v = aR h ((sC.r s), (sC.n s), (sC.hi s), (sC.lo s), v, (sC.gr s)) := by
  refine aR_put ?_
  funext i
  by_cases e : i = 4
  · subst e; exact qus
  · rw [qun e]
    rcases i with _ | _ | _ | _ | _ | _ | i <;> first | rfl | exact absurd rfl e
theorem aR_gr {h : qH} {s : sC} {v : Int64} : qpL (aR h s) 64 5 v = aR h ((sC.r s), (sC.n s), (sC.hi s), (sC.lo s), (sC.le s), v) := by
  refine aR_put ?_
  funext i
  by_cases e : i = 5
  · subst e; exact qus
  · rw [qun e]
    rcases i with _ | _ | _ | _ | _ | _ | i <;> first | rfl | exact absurd rfl e
set_option maxRecDepth 100000 in
set_option maxHeartbeats 4000000 in
theorem ct_Ag_clear {h : qH} (s : sC) : qT mi_Ag_clear 0 0 0 [.ref 64] (aR h s) NN (fun v1 h1 n1 => v1 = none ∧ h1 = aR h sC0 ∧ n1 = NN) := by
  refine qT.of (lv0 := [_]) (by decide +kernel) (fun _ _ => Nat.le_of_ble_eq_true rfl) rfl ?_
  refine qx_aload_n d_Ag_clear_0 rfl rfl ?_
  refine qx_lconst (v := 0) d_Ag_clear_1 rfl ?_
  refine qx_putL d_Ag_clear_2 fL_Ag_9 rfl rfl ?_
  refine qx_aload_n d_Ag_clear_5 rfl rfl ?_
  refine qx_lconst (v := 0) d_Ag_clear_6 rfl ?_
  refine qx_putL d_Ag_clear_7 fL_Ag_15 rfl rfl ?_
  refine qx_aload_n d_Ag_clear_10 rfl rfl ?_
  refine qx_lconst (v := 0) d_Ag_clear_11 rfl ?_
  refine qx_putL d_Ag_clear_12 fL_Ag_18 rfl rfl ?_
  refine qx_aload_n d_Ag_clear_15 rfl rfl ?_
  refine qx_lconst (v := 0) d_Ag_clear_16 rfl ?_
  refine qx_putL d_Ag_clear_17 fL_Ag_21 rfl rfl ?_
  refine qx_aload_n d_Ag_clear_20 rfl rfl ?_
  refine qx_ldc2 d_Ag_clear_21 kl_Ag_24 ?_
  refine qx_putL d_Ag_clear_24 fL_Ag_26 rfl rfl ?_
  refine qx_aload_n d_Ag_clear_27 rfl rfl ?_
  refine qx_ldc2 d_Ag_clear_28 kl_Ag_29 ?_
  refine qx_putL d_Ag_clear_31 fL_Ag_31 rfl rfl ?_
  exact qx_ret d_Ag_clear_34 rfl (by omega) (by omega) ⟨rfl, by rw [aR_r, aR_n, aR_hi, aR_lo, aR_le, aR_gr]; rfl, rfl⟩
set_option maxRecDepth 100000 in
set_option maxHeartbeats 4000000 in
theorem ct_Ag_add {h : qH} (s : sC) (v : Int64) (b : Bool) : qT mi_Ag_add 1 0 0 [.ref 64, .long v, .int (b2i b)] (aR h s) NN (fun v1 h1 n1 => v1 = none ∧ h1 = aR h (cAdd s (if b = true then none else some v)) ∧ n1 = NN) := by
  refine qT.of (lv0 := [_, _, _, _]) (by decide +kernel) (fun _ _ => Nat.le_of_ble_eq_true rfl) rfl ?_
  refine qx_aload_n d_Ag_add_0 rfl rfl ?_
  refine qx_dup d_Ag_add_1 rfl ?_
  refine qx_getL d_Ag_add_2 fL_Ag_9 rfl rfl (show _ = s.r from rfl) ?_
  refine qx_lconst (v := 1) d_Ag_add_5 rfl ?_
  refine qx_ladd d_Ag_add_6 ?_
  refine qx_putL d_Ag_add_7 fL_Ag_9 rfl rfl ?_
  refine qx_iload_n d_Ag_add_10 rfl rfl ?_
  refine qx_if_eqB (t := 15) d_Ag_add_11 rfl (fun c11 => ?_) (fun c11 => ?_)
  · refine qx_aload_n d_Ag_add_15 rfl rfl ?_
    refine qx_dup d_Ag_add_16 rfl ?_
    refine qx_getL d_Ag_add_17 fL_Ag_15 rfl rfl (show _ = s.n from rfl) ?_
    refine qx_lconst (v := 1) d_Ag_add_20 rfl ?_
    refine qx_ladd d_Ag_add_21 ?_
    refine qx_putL d_Ag_add_22 fL_Ag_15 rfl rfl ?_
    refine qx_aload_n d_Ag_add_25 rfl rfl ?_
    refine qx_dup d_Ag_add_26 rfl ?_
    refine qx_getL d_Ag_add_27 fL_Ag_18 rfl rfl (show _ = s.hi from rfl) ?_
    refine qx_lload_n d_Ag_add_30 rfl rfl ?_
    refine qx_bipushN (v := 32) d_Ag_add_31 rfl ?_
    refine qx_lshr d_Ag_add_33 ?_
    refine qx_ladd d_Ag_add_34 ?_
    refine qx_putL d_Ag_add_35 fL_Ag_18 rfl rfl ?_
    refine qx_aload_n d_Ag_add_38 rfl rfl ?_
    refine qx_dup d_Ag_add_39 rfl ?_
    refine qx_getL d_Ag_add_40 fL_Ag_21 rfl rfl (show _ = s.lo from rfl) ?_
    refine qx_lload_n d_Ag_add_43 rfl rfl ?_
    refine qx_ldc2 d_Ag_add_44 kl_Ag_34 ?_
    refine qx_land d_Ag_add_47 ?_
    refine qx_ladd d_Ag_add_48 ?_
    refine qx_putL d_Ag_add_49 fL_Ag_21 rfl rfl ?_
    refine qx_aload_n d_Ag_add_52 rfl rfl ?_
    refine qx_aload_n d_Ag_add_53 rfl rfl ?_
    refine qx_getL d_Ag_add_54 fL_Ag_26 rfl rfl (show _ = s.le from rfl) ?_
    refine qx_lload_n d_Ag_add_57 rfl rfl ?_
    refine qx_callS (As := [_, _]) (rest := _) d_Ag_add_58 lk_Ag_36 y_JM_minJ s_JM_minJ rfl rfl rfl rfl (by decide) (by decide) (ct_JM_minJ _ _) ?_
    rintro _ _ _ ⟨rfl, rfl, rfl⟩
    refine qx_putL d_Ag_add_61 fL_Ag_26 rfl rfl ?_
    refine qx_aload_n d_Ag_add_64 rfl rfl ?_
    refine qx_aload_n d_Ag_add_65 rfl rfl ?_
    refine qx_getL d_Ag_add_66 fL_Ag_31 rfl rfl (show _ = s.gr from rfl) ?_
    refine qx_lload_n d_Ag_add_69 rfl rfl ?_
    refine qx_callS (As := [_, _]) (rest := _) d_Ag_add_70 lk_Ag_42 y_JM_maxJ s_JM_maxJ rfl rfl rfl rfl (by decide) (by decide) (ct_JM_maxJ _ _) ?_
    rintro _ _ _ ⟨rfl, rfl, rfl⟩
    refine qx_putL d_Ag_add_73 fL_Ag_31 rfl rfl ?_
    exact qx_ret d_Ag_add_76 rfl (by omega) (by omega) (by rw [c11]; first | exact ⟨rfl, aR_r, rfl⟩ | exact ⟨rfl, by rw [aR_r, aR_n, aR_hi, aR_lo, aR_le, aR_gr]; rfl, rfl⟩)
  · exact qx_ret d_Ag_add_14 rfl (by omega) (by omega) (by rw [c11]; first | exact ⟨rfl, aR_r, rfl⟩ | exact ⟨rfl, by rw [aR_r, aR_n, aR_hi, aR_lo, aR_le, aR_gr]; rfl, rfl⟩)
def cHas (s : sC) : Bool := decide ((sC.hi s) + ((sC.lo s) >>> S32) = ((sC.hi s) + ((sC.lo s) >>> S32)).toInt32.toInt64)
def cNul (s : sC) (k : Nat) : Bool := if k = 1 ∨ k = 2 then false else (decide ((sC.n s) = 0) || (decide (k = 3) && !cHas s))
def cVal (s : sC) (k : Nat) : Int64 := if k = 1 then (sC.r s) else if k = 2 then (sC.n s) else if k = 3 then ((sC.hi s) <<< S32) + (sC.lo s) else if k = 4 then (sC.le s) else (sC.gr s)
set_option maxRecDepth 100000 in
set_option maxHeartbeats 4000000 in
theorem ct_Ag_hasSum {h : qH} (s : sC) : qT mi_Ag_hasSum 0 0 0 [.ref 64] (aR h s) NN (fun v1 h1 n1 => v1 = some (.int (b2i (cHas s))) ∧ h1 = aR h s ∧ n1 = NN) := by
  refine qT.of (lv0 := [_, _, _]) (by decide +kernel) (fun _ _ => Nat.le_of_ble_eq_true rfl) rfl ?_
  refine qx_aload_n d_Ag_hasSum_0 rfl rfl ?_
  refine qx_getL d_Ag_hasSum_1 fL_Ag_18 rfl rfl (show _ = s.hi from rfl) ?_
  refine qx_aload_n d_Ag_hasSum_4 rfl rfl ?_
  refine qx_getL d_Ag_hasSum_5 fL_Ag_21 rfl rfl (show _ = s.lo from rfl) ?_
  refine qx_bipushN (v := 32) d_Ag_hasSum_8 rfl ?_
  refine qx_lshr d_Ag_hasSum_10 ?_
  refine qx_ladd d_Ag_hasSum_11 ?_
  refine qx_lstore_n (lv1 := [_, _, _]) d_Ag_hasSum_12 rfl (by decide) rfl ?_
  refine qx_lload_n d_Ag_hasSum_13 rfl rfl ?_
  refine qx_lload_n d_Ag_hasSum_14 rfl rfl ?_
  refine qx_l2i d_Ag_hasSum_15 ?_
  refine qx_i2l d_Ag_hasSum_16 ?_
  refine qx_lcmp d_Ag_hasSum_17 ?_
  refine qx_if_neC (t := 25) d_Ag_hasSum_18 rfl (fun c18 => ?_) (fun c18 => ?_)
  · refine qx_iconstN (v := 0) d_Ag_hasSum_25 rfl ?_
    exact qx_iret d_Ag_hasSum_26 rfl rfl (by omega) (by omega) (by refine ⟨?_, rfl, rfl⟩; first | (rw [show cHas s = true from decide_eq_true c18]; rfl) | (rw [show cHas s = false from decide_eq_false c18]; rfl))
  · refine qx_iconstN (v := 1) d_Ag_hasSum_21 rfl ?_
    refine qx_goto (t := 26) d_Ag_hasSum_22 rfl ?_
    exact qx_iret d_Ag_hasSum_26 rfl rfl (by omega) (by omega) (by refine ⟨?_, rfl, rfl⟩; first | (rw [show cHas s = true from decide_eq_true c18]; rfl) | (rw [show cHas s = false from decide_eq_false c18]; rfl))
set_option maxRecDepth 100000 in
set_option maxHeartbeats 4000000 in
theorem ct_Ag_isNull {h : qH} (s : sC) (k : Nat) (hk : k < 6) : qT mi_Ag_isNull 1 0 0 [.ref 64, .int (nI k)] (aR h s) NN (fun v1 h1 n1 => v1 = some (.int (b2i (cNul s k))) ∧ h1 = aR h s ∧ n1 = NN) := by
  refine qT.of (lv0 := [_, _]) (by decide +kernel) (fun _ _ => Nat.le_of_ble_eq_true rfl) rfl ?_
  refine qx_iload_n d_Ag_isNull_0 rfl rfl ?_
  refine qx_iconstN (v := 1) d_Ag_isNull_1 rfl ?_
  refine qx_icmp_eqN (t := 10) d_Ag_isNull_2 rfl (by omega) (by omega) (fun c2 => ?_) (fun c2 => ?_)
  · refine qx_iconstN (v := 0) d_Ag_isNull_10 rfl ?_
    exact qx_iret d_Ag_isNull_11 rfl rfl (by omega) (by omega) (by refine ⟨?_, rfl, rfl⟩; unfold cNul; first | (rw [if_pos (Or.inl c2)]; rfl) | (rw [if_pos (Or.inr c7)]; rfl) | (rw [if_neg (fun e => e.elim (fun q => by omega) (fun q => by omega))]; first | (rw [decide_eq_true c18]; rfl) | (rw [decide_eq_false c18, decide_eq_true c23, c30]; rfl) | (rw [decide_eq_false c18, decide_eq_false (show ¬ k = 3 by omega)]; rfl)))
  · refine qx_iload_n d_Ag_isNull_5 rfl rfl ?_
    refine qx_iconstN (v := 2) d_Ag_isNull_6 rfl ?_
    refine qx_icmp_neN (t := 12) d_Ag_isNull_7 rfl (by omega) (by omega) (fun c7 => ?_) (fun c7 => ?_)
    · refine qx_aload_n d_Ag_isNull_12 rfl rfl ?_
      refine qx_getL d_Ag_isNull_13 fL_Ag_15 rfl rfl (show _ = s.n from rfl) ?_
      refine qx_lconst (v := 0) d_Ag_isNull_16 rfl ?_
      refine qx_lcmp d_Ag_isNull_17 ?_
      refine qx_if_eqC (t := 33) d_Ag_isNull_18 rfl (fun c18 => ?_) (fun c18 => ?_)
      · refine qx_iconstN (v := 1) d_Ag_isNull_33 rfl ?_
        refine qx_goto (t := 38) d_Ag_isNull_34 rfl ?_
        exact qx_iret d_Ag_isNull_38 rfl rfl (by omega) (by omega) (by refine ⟨?_, rfl, rfl⟩; unfold cNul; first | (rw [if_pos (Or.inl c2)]; rfl) | (rw [if_pos (Or.inr c7)]; rfl) | (rw [if_neg (fun e => e.elim (fun q => by omega) (fun q => by omega))]; first | (rw [decide_eq_true c18]; rfl) | (rw [decide_eq_false c18, decide_eq_true c23, c30]; rfl) | (rw [decide_eq_false c18, decide_eq_false (show ¬ k = 3 by omega)]; rfl)))
      · refine qx_iload_n d_Ag_isNull_21 rfl rfl ?_
        refine qx_iconstN (v := 3) d_Ag_isNull_22 rfl ?_
        refine qx_icmp_neN (t := 37) d_Ag_isNull_23 rfl (by omega) (by omega) (fun c23 => ?_) (fun c23 => ?_)
        · refine qx_iconstN (v := 0) d_Ag_isNull_37 rfl ?_
          exact qx_iret d_Ag_isNull_38 rfl rfl (by omega) (by omega) (by refine ⟨?_, rfl, rfl⟩; unfold cNul; first | (rw [if_pos (Or.inl c2)]; rfl) | (rw [if_pos (Or.inr c7)]; rfl) | (rw [if_neg (fun e => e.elim (fun q => by omega) (fun q => by omega))]; first | (rw [decide_eq_true c18]; rfl) | (rw [decide_eq_false c18, decide_eq_true c23, c30]; rfl) | (rw [decide_eq_false c18, decide_eq_false (show ¬ k = 3 by omega)]; rfl)))
        · refine qx_aload_n d_Ag_isNull_26 rfl rfl ?_
          refine qx_callV (As := []) (rest := _) d_Ag_isNull_27 lk_Ag_45 y_Ag_hasSum v_Ag_hasSum rfl rfl rfl (by decide) rfl rfl rfl rfl (by decide) (by decide) (ct_Ag_hasSum s) ?_
          rintro _ _ _ ⟨rfl, rfl, rfl⟩
          refine qx_if_neB (t := 37) d_Ag_isNull_30 rfl (fun c30 => ?_) (fun c30 => ?_)
          · refine qx_iconstN (v := 0) d_Ag_isNull_37 rfl ?_
            exact qx_iret d_Ag_isNull_38 rfl rfl (by omega) (by omega) (by refine ⟨?_, rfl, rfl⟩; unfold cNul; first | (rw [if_pos (Or.inl c2)]; rfl) | (rw [if_pos (Or.inr c7)]; rfl) | (rw [if_neg (fun e => e.elim (fun q => by omega) (fun q => by omega))]; first | (rw [decide_eq_true c18]; rfl) | (rw [decide_eq_false c18, decide_eq_true c23, c30]; rfl) | (rw [decide_eq_false c18, decide_eq_false (show ¬ k = 3 by omega)]; rfl)))
          · refine qx_iconstN (v := 1) d_Ag_isNull_33 rfl ?_
            refine qx_goto (t := 38) d_Ag_isNull_34 rfl ?_
            exact qx_iret d_Ag_isNull_38 rfl rfl (by omega) (by omega) (by refine ⟨?_, rfl, rfl⟩; unfold cNul; first | (rw [if_pos (Or.inl c2)]; rfl) | (rw [if_pos (Or.inr c7)]; rfl) | (rw [if_neg (fun e => e.elim (fun q => by omega) (fun q => by omega))]; first | (rw [decide_eq_true c18]; rfl) | (rw [decide_eq_false c18, decide_eq_true c23, c30]; rfl) | (rw [decide_eq_false c18, decide_eq_false (show ¬ k = 3 by omega)]; rfl)))
    · refine qx_iconstN (v := 0) d_Ag_isNull_10 rfl ?_
      exact qx_iret d_Ag_isNull_11 rfl rfl (by omega) (by omega) (by refine ⟨?_, rfl, rfl⟩; unfold cNul; first | (rw [if_pos (Or.inl c2)]; rfl) | (rw [if_pos (Or.inr c7)]; rfl) | (rw [if_neg (fun e => e.elim (fun q => by omega) (fun q => by omega))]; first | (rw [decide_eq_true c18]; rfl) | (rw [decide_eq_false c18, decide_eq_true c23, c30]; rfl) | (rw [decide_eq_false c18, decide_eq_false (show ¬ k = 3 by omega)]; rfl)))
set_option maxRecDepth 100000 in
set_option maxHeartbeats 4000000 in
theorem ct_Ag_value_1 {h : qH} (s : sC) : qT mi_Ag_value 0 0 0 [.ref 64, .int (nI 1)] (aR h s) NN (fun v1 h1 n1 => v1 = some (.long (cVal s 1)) ∧ h1 = aR h s ∧ n1 = NN) := by
  refine qT.of (lv0 := [_, _]) (by decide +kernel) (fun _ _ => Nat.le_of_ble_eq_true rfl) rfl ?_
  refine qx_iload_n d_Ag_value_0 rfl rfl ?_
  refine qx_tabIn (t := 36) d_Ag_value_1 (by decide) (by decide) rfl rfl ?_
  refine qx_aload_n d_Ag_value_36 rfl rfl ?_
  refine qx_getL d_Ag_value_37 fL_Ag_9 rfl rfl (show _ = s.r from rfl) ?_
  exact qx_lret d_Ag_value_40 rfl (by omega) (by omega) ⟨rfl, rfl, rfl⟩
set_option maxRecDepth 100000 in
set_option maxHeartbeats 4000000 in
theorem ct_Ag_value_2 {h : qH} (s : sC) : qT mi_Ag_value 0 0 0 [.ref 64, .int (nI 2)] (aR h s) NN (fun v1 h1 n1 => v1 = some (.long (cVal s 2)) ∧ h1 = aR h s ∧ n1 = NN) := by
  refine qT.of (lv0 := [_, _]) (by decide +kernel) (fun _ _ => Nat.le_of_ble_eq_true rfl) rfl ?_
  refine qx_iload_n d_Ag_value_0 rfl rfl ?_
  refine qx_tabIn (t := 41) d_Ag_value_1 (by decide) (by decide) rfl rfl ?_
  refine qx_aload_n d_Ag_value_41 rfl rfl ?_
  refine qx_getL d_Ag_value_42 fL_Ag_15 rfl rfl (show _ = s.n from rfl) ?_
  exact qx_lret d_Ag_value_45 rfl (by omega) (by omega) ⟨rfl, rfl, rfl⟩
set_option maxRecDepth 100000 in
set_option maxHeartbeats 4000000 in
theorem ct_Ag_value_3 {h : qH} (s : sC) : qT mi_Ag_value 0 0 0 [.ref 64, .int (nI 3)] (aR h s) NN (fun v1 h1 n1 => v1 = some (.long (cVal s 3)) ∧ h1 = aR h s ∧ n1 = NN) := by
  refine qT.of (lv0 := [_, _]) (by decide +kernel) (fun _ _ => Nat.le_of_ble_eq_true rfl) rfl ?_
  refine qx_iload_n d_Ag_value_0 rfl rfl ?_
  refine qx_tabIn (t := 46) d_Ag_value_1 (by decide) (by decide) rfl rfl ?_
  refine qx_aload_n d_Ag_value_46 rfl rfl ?_
  refine qx_getL d_Ag_value_47 fL_Ag_18 rfl rfl (show _ = s.hi from rfl) ?_
  refine qx_bipushN (v := 32) d_Ag_value_50 rfl ?_
  refine qx_lshl d_Ag_value_52 ?_
  refine qx_aload_n d_Ag_value_53 rfl rfl ?_
  refine qx_getL d_Ag_value_54 fL_Ag_21 rfl rfl (show _ = s.lo from rfl) ?_
  refine qx_ladd d_Ag_value_57 ?_
  exact qx_lret d_Ag_value_58 rfl (by omega) (by omega) ⟨rfl, rfl, rfl⟩
set_option maxRecDepth 100000 in
set_option maxHeartbeats 4000000 in
theorem ct_Ag_value_4 {h : qH} (s : sC) : qT mi_Ag_value 0 0 0 [.ref 64, .int (nI 4)] (aR h s) NN (fun v1 h1 n1 => v1 = some (.long (cVal s 4)) ∧ h1 = aR h s ∧ n1 = NN) := by
  refine qT.of (lv0 := [_, _]) (by decide +kernel) (fun _ _ => Nat.le_of_ble_eq_true rfl) rfl ?_
  refine qx_iload_n d_Ag_value_0 rfl rfl ?_
  refine qx_tabIn (t := 59) d_Ag_value_1 (by decide) (by decide) rfl rfl ?_
  refine qx_aload_n d_Ag_value_59 rfl rfl ?_
  refine qx_getL d_Ag_value_60 fL_Ag_26 rfl rfl (show _ = s.le from rfl) ?_
  exact qx_lret d_Ag_value_63 rfl (by omega) (by omega) ⟨rfl, rfl, rfl⟩
set_option maxRecDepth 100000 in
set_option maxHeartbeats 4000000 in
theorem ct_Ag_value_5 {h : qH} (s : sC) : qT mi_Ag_value 0 0 0 [.ref 64, .int (nI 5)] (aR h s) NN (fun v1 h1 n1 => v1 = some (.long (cVal s 5)) ∧ h1 = aR h s ∧ n1 = NN) := by
  refine qT.of (lv0 := [_, _]) (by decide +kernel) (fun _ _ => Nat.le_of_ble_eq_true rfl) rfl ?_
  refine qx_iload_n d_Ag_value_0 rfl rfl ?_
  refine qx_tabIn (t := 64) d_Ag_value_1 (by decide) (by decide) rfl rfl ?_
  refine qx_aload_n d_Ag_value_64 rfl rfl ?_
  refine qx_getL d_Ag_value_65 fL_Ag_31 rfl rfl (show _ = s.gr from rfl) ?_
  exact qx_lret d_Ag_value_68 rfl (by omega) (by omega) ⟨rfl, rfl, rfl⟩
