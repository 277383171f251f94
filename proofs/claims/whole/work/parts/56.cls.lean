def qRQu : Nat → Option Nat := fun f => (([none, none, none, none, none, none, some 4, none, some 29, none, some 48, some 58] : List (Option Nat))[f]?).getD none
/-- does the query have aggregates? -/
def cAgg (gr : Option Nat) (ok : Nat → Nat) (no : Nat) : Bool := gr.isSome || (decide (0 < no) && decide (ok 0 ≠ 0))
set_option maxRecDepth 100000 in
set_option maxHeartbeats 4000000 in
theorem ct_Qu_isAggregate {h : qH} (hU : h.2.2 3 = qRQu) (gr : Option Nat) (hgr4 : ∀ g, gr = some g → g < 4) (hgr : h.1 3 13 = grI gr) (no : Nat) (hno3 : no ≤ 3) (hno : h.1 3 12 = nI no) (ok : Nat → Nat) (hok : ∀ o, o < no → h.1 58 o = nI (ok o) ∧ ok o < 6) : qT mi_Qu_isAggregate 1 0 0 [.ref 3] h NN (fun v1 h1 n1 => v1 = some (.int (b2i (cAgg gr ok no))) ∧ h = h1 ∧ n1 = NN) := by
  refine qT.of (lv0 := [_]) (by decide +kernel) (fun _ _ => Nat.le_of_ble_eq_true rfl) rfl ?_
  refine qx_aload_n d_Qu_isAggregate_0 rfl rfl ?_
  refine qx_callV (As := []) (rest := _) d_Qu_isAggregate_1 lk_Qu_77 y_Qu_isGrouped v_Qu_isGrouped rfl rfl rfl (by decide) rfl rfl rfl rfl (by decide) (by decide) (ct_Qu_isGrouped gr hgr4 hgr) ?_
  rintro _ _ _ ⟨rfl, rfl, rfl⟩
  refine qx_if_neB (t := 23) d_Qu_isAggregate_4 rfl (fun c4 => ?_) (fun c4 => ?_)
  · refine qx_iconstN (v := 1) d_Qu_isAggregate_23 rfl ?_
    refine qx_goto (t := 28) d_Qu_isAggregate_24 rfl ?_
    exact qx_iret d_Qu_isAggregate_28 rfl rfl (by omega) (by omega) (by refine ⟨?_, rfl, rfl⟩; unfold cAgg; rw [c4]; first | rfl | (have z := c20; rw [decide_eq_true (show 0 < no by omega)]; first | (rw [decide_eq_true (show ok 0 ≠ 0 by omega)]; rfl) | (rw [decide_eq_false (show ¬ ok 0 ≠ 0 by omega)]; rfl)) | (rw [decide_eq_false (show ¬ 0 < no by omega)]; rfl))
  · refine qx_aload_n d_Qu_isAggregate_7 rfl rfl ?_
    refine qx_getI d_Qu_isAggregate_8 fI_Qu_64 rfl rfl hno ?_
    refine qx_if_leN (t := 27) d_Qu_isAggregate_11 rfl (by omega) (fun c11 => ?_) (fun c11 => ?_)
    · refine qx_iconstN (v := 0) d_Qu_isAggregate_27 rfl ?_
      exact qx_iret d_Qu_isAggregate_28 rfl rfl (by omega) (by omega) (by refine ⟨?_, rfl, rfl⟩; unfold cAgg; rw [c4]; first | rfl | (have z := c20; rw [decide_eq_true (show 0 < no by omega)]; first | (rw [decide_eq_true (show ok 0 ≠ 0 by omega)]; rfl) | (rw [decide_eq_false (show ¬ ok 0 ≠ 0 by omega)]; rfl)) | (rw [decide_eq_false (show ¬ 0 < no by omega)]; rfl))
    · refine qx_aload_n d_Qu_isAggregate_14 rfl rfl ?_
      refine qx_getR d_Qu_isAggregate_15 fR_Qu_25 rfl rfl (congrFun hU 11) ?_
      refine qx_iconstN (v := 0) d_Qu_isAggregate_18 rfl ?_
      refine qx_iald d_Qu_isAggregate_19 rfl rfl rfl rfl (by omega) (hok 0 (by omega)).1 ?_
      refine qx_if_eqN (t := 27) d_Qu_isAggregate_20 rfl (by have := (hok 0 (by omega)).2; omega) (fun c20 => ?_) (fun c20 => ?_)
      · refine qx_iconstN (v := 0) d_Qu_isAggregate_27 rfl ?_
        exact qx_iret d_Qu_isAggregate_28 rfl rfl (by omega) (by omega) (by refine ⟨?_, rfl, rfl⟩; unfold cAgg; rw [c4]; first | rfl | (have z := c20; rw [decide_eq_true (show 0 < no by omega)]; first | (rw [decide_eq_true (show ok 0 ≠ 0 by omega)]; rfl) | (rw [decide_eq_false (show ¬ ok 0 ≠ 0 by omega)]; rfl)) | (rw [decide_eq_false (show ¬ 0 < no by omega)]; rfl))
      · refine qx_iconstN (v := 1) d_Qu_isAggregate_23 rfl ?_
        refine qx_goto (t := 28) d_Qu_isAggregate_24 rfl ?_
        exact qx_iret d_Qu_isAggregate_28 rfl rfl (by omega) (by omega) (by refine ⟨?_, rfl, rfl⟩; unfold cAgg; rw [c4]; first | rfl | (have z := c20; rw [decide_eq_true (show 0 < no by omega)]; first | (rw [decide_eq_true (show ok 0 ≠ 0 by omega)]; rfl) | (rw [decide_eq_false (show ¬ ok 0 ≠ 0 by omega)]; rfl)) | (rw [decide_eq_false (show ¬ 0 < no by omega)]; rfl))
set_option maxRecDepth 100000 in
set_option maxHeartbeats 4000000 in
theorem ct_Qu_needs {h : qH} (hU : h.2.2 3 = qRQu) (kd : Nat) (hk3 : kd < 3) (hkd : h.1 3 1 = nI kd) (gr : Option Nat) (hgr4 : ∀ g, gr = some g → g < 4) (hgr : h.1 3 13 = grI gr) (no : Nat) (hno3 : no ≤ 3) (hno : h.1 3 12 = nI no) (ok : Nat → Nat) (hok : ∀ o, o < no → h.1 58 o = nI (ok o) ∧ ok o < 6) (t : Nat) (ht : t < 4) : qT mi_Qu_needs 2 0 0 [.ref 3, .int (nI t)] h NN (fun v1 h1 n1 => v1 = some (.int (b2i (if t = 1 ∨ t = 2 then decide (kd ≠ 0) else (decide (t = 0) || cAgg gr ok no)))) ∧ h = h1 ∧ n1 = NN) := by
  refine qT.of (lv0 := [_, _]) (by decide +kernel) (fun _ _ => Nat.le_of_ble_eq_true rfl) rfl ?_
  refine qx_iload_n d_Qu_needs_0 rfl rfl ?_
  refine qx_iconstN (v := 1) d_Qu_needs_1 rfl ?_
  refine qx_icmp_eqN (t := 10) d_Qu_needs_2 rfl (by omega) (by omega) (fun c2 => ?_) (fun c2 => ?_)
  · refine qx_aload_n d_Qu_needs_10 rfl rfl ?_
    refine qx_callV (As := []) (rest := _) d_Qu_needs_11 lk_Qu_73 y_Qu_isJoin v_Qu_isJoin rfl rfl rfl (by decide) rfl rfl rfl rfl (by decide) (by decide) (ct_Qu_isJoin kd hk3 hkd) ?_
    rintro _ _ _ ⟨rfl, rfl, rfl⟩
    exact qx_iret d_Qu_needs_14 rfl (b2i_nar _) (by omega) (by omega) (by refine ⟨?_, rfl, rfl⟩; first | (rw [if_pos (by omega)]; done) | (rw [if_neg (by omega)]; first | (have z := c23; rw [decide_eq_false (show ¬ t = 0 by omega), c23]; rfl) | (rw [decide_eq_true (show t = 0 by omega)]; rfl)))
  · refine qx_iload_n d_Qu_needs_5 rfl rfl ?_
    refine qx_iconstN (v := 2) d_Qu_needs_6 rfl ?_
    refine qx_icmp_neN (t := 15) d_Qu_needs_7 rfl (by omega) (by omega) (fun c7 => ?_) (fun c7 => ?_)
    · refine qx_iload_n d_Qu_needs_15 rfl rfl ?_
      refine qx_if_eqN (t := 26) d_Qu_needs_16 rfl (by omega) (fun c16 => ?_) (fun c16 => ?_)
      · refine qx_iconstN (v := 1) d_Qu_needs_26 rfl ?_
        refine qx_goto (t := 31) d_Qu_needs_27 rfl ?_
        exact qx_iret d_Qu_needs_31 rfl rfl (by omega) (by omega) (by refine ⟨?_, rfl, rfl⟩; first | (rw [if_pos (by omega)]; done) | (rw [if_neg (by omega)]; first | (have z := c23; rw [decide_eq_false (show ¬ t = 0 by omega), c23]; rfl) | (rw [decide_eq_true (show t = 0 by omega)]; rfl)))
      · refine qx_aload_n d_Qu_needs_19 rfl rfl ?_
        refine qx_callV (As := []) (rest := _) d_Qu_needs_20 lk_Qu_80 y_Qu_isAggregate v_Qu_isAggregate rfl rfl rfl (by decide) rfl rfl rfl rfl (by decide) (by decide) (ct_Qu_isAggregate hU gr hgr4 hgr no hno3 hno ok hok) ?_
        rintro _ _ _ ⟨rfl, rfl, rfl⟩
        refine qx_if_eqB (t := 30) d_Qu_needs_23 rfl (fun c23 => ?_) (fun c23 => ?_)
        · refine qx_iconstN (v := 0) d_Qu_needs_30 rfl ?_
          exact qx_iret d_Qu_needs_31 rfl rfl (by omega) (by omega) (by refine ⟨?_, rfl, rfl⟩; first | (rw [if_pos (by omega)]; done) | (rw [if_neg (by omega)]; first | (have z := c23; rw [decide_eq_false (show ¬ t = 0 by omega), c23]; rfl) | (rw [decide_eq_true (show t = 0 by omega)]; rfl)))
        · refine qx_iconstN (v := 1) d_Qu_needs_26 rfl ?_
          refine qx_goto (t := 31) d_Qu_needs_27 rfl ?_
          exact qx_iret d_Qu_needs_31 rfl rfl (by omega) (by omega) (by refine ⟨?_, rfl, rfl⟩; first | (rw [if_pos (by omega)]; done) | (rw [if_neg (by omega)]; first | (have z := c23; rw [decide_eq_false (show ¬ t = 0 by omega), c23]; rfl) | (rw [decide_eq_true (show t = 0 by omega)]; rfl)))
    · refine qx_aload_n d_Qu_needs_10 rfl rfl ?_
      refine qx_callV (As := []) (rest := _) d_Qu_needs_11 lk_Qu_73 y_Qu_isJoin v_Qu_isJoin rfl rfl rfl (by decide) rfl rfl rfl rfl (by decide) (by decide) (ct_Qu_isJoin kd hk3 hkd) ?_
      rintro _ _ _ ⟨rfl, rfl, rfl⟩
      exact qx_iret d_Qu_needs_14 rfl (b2i_nar _) (by omega) (by omega) (by refine ⟨?_, rfl, rfl⟩; first | (rw [if_pos (by omega)]; done) | (rw [if_neg (by omega)]; first | (have z := c23; rw [decide_eq_false (show ¬ t = 0 by omega), c23]; rfl) | (rw [decide_eq_true (show t = 0 by omega)]; rfl)))
