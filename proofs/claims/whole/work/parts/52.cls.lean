/-! the class: its own row of references; the query's small methods -/
def qRQF : Nat → Option Nat := fun f => (([some 1, some 2, some 3, some 79, some 83] : List (Option Nat))[f]?).getD none
set_option maxRecDepth 100000 in
set_option maxHeartbeats 4000000 in
theorem ct_Qu_isJoin {h : qH} (kd : Nat) (hk3 : kd < 3) (hkd : h.1 3 1 = nI kd) : qT mi_Qu_isJoin 0 0 0 [.ref 3] h NN (fun v1 h1 n1 => v1 = some (.int (b2i (decide (kd ≠ 0)))) ∧ h = h1 ∧ n1 = NN) := by
  refine qT.of (lv0 := [_]) (by decide +kernel) (fun _ _ => Nat.le_of_ble_eq_true rfl) rfl ?_
  refine qx_aload_n d_Qu_isJoin_0 rfl rfl ?_
  refine qx_getI d_Qu_isJoin_1 fI_Qu_43 rfl rfl hkd ?_
  refine qx_if_eqN (t := 11) d_Qu_isJoin_4 rfl (by omega) (fun c4 => ?_) (fun c4 => ?_)
  · refine qx_iconstN (v := 0) d_Qu_isJoin_11 rfl ?_
    exact qx_iret d_Qu_isJoin_12 rfl rfl (by omega) (by omega) (by refine ⟨?_, rfl, rfl⟩; first | (rw [decide_eq_true (show kd ≠ 0 by omega)]; rfl) | (rw [decide_eq_false (show ¬ kd ≠ 0 by omega)]; rfl))
  · refine qx_iconstN (v := 1) d_Qu_isJoin_7 rfl ?_
    refine qx_goto (t := 12) d_Qu_isJoin_8 rfl ?_
    exact qx_iret d_Qu_isJoin_12 rfl rfl (by omega) (by omega) (by refine ⟨?_, rfl, rfl⟩; first | (rw [decide_eq_true (show kd ≠ 0 by omega)]; rfl) | (rw [decide_eq_false (show ¬ kd ≠ 0 by omega)]; rfl))
set_option maxRecDepth 100000 in
set_option maxHeartbeats 4000000 in
theorem ct_Qu_columns {h : qH} (kd : Nat) (hk3 : kd < 3) (hkd : h.1 3 1 = nI kd) : qT mi_Qu_columns 1 0 0 [.ref 3] h NN (fun v1 h1 n1 => v1 = some (.int (nI (if kd = 0 then 2 else 4))) ∧ h = h1 ∧ n1 = NN) := by
  refine qT.of (lv0 := [_]) (by decide +kernel) (fun _ _ => Nat.le_of_ble_eq_true rfl) rfl ?_
  refine qx_aload_n d_Qu_columns_0 rfl rfl ?_
  refine qx_callV (As := []) (rest := _) d_Qu_columns_1 lk_Qu_73 y_Qu_isJoin v_Qu_isJoin rfl rfl rfl (by decide) rfl rfl rfl rfl (by decide) (by decide) (ct_Qu_isJoin kd hk3 hkd) ?_
  rintro _ _ _ ⟨rfl, rfl, rfl⟩
  refine qx_if_eqB (t := 11) d_Qu_columns_4 rfl (fun c4 => ?_) (fun c4 => ?_)
  · refine qx_iconstN (v := 2) d_Qu_columns_11 rfl ?_
    exact qx_iret d_Qu_columns_12 rfl rfl (by omega) (by omega) (by refine ⟨?_, rfl, rfl⟩; first | (rw [if_neg (of_decide_eq_true c4)]; done) | (rw [if_pos (Classical.not_not.mp (of_decide_eq_false c4))]; done))
  · refine qx_iconstN (v := 4) d_Qu_columns_7 rfl ?_
    refine qx_goto (t := 12) d_Qu_columns_8 rfl ?_
    exact qx_iret d_Qu_columns_12 rfl rfl (by omega) (by omega) (by refine ⟨?_, rfl, rfl⟩; first | (rw [if_neg (of_decide_eq_true c4)]; done) | (rw [if_pos (Classical.not_not.mp (of_decide_eq_false c4))]; done))
theorem grI_m1 {gr : Option Nat} (h : ∀ g, gr = some g → g < 4) : grI gr = -1 ↔ gr = none := by
  cases gr with
  | none => exact ⟨fun _ => rfl, fun _ => rfl⟩
  | some g => exact ⟨fun e => absurd e (nI_m1 g (by have := h g rfl; omega)), fun e => by cases e⟩
set_option maxRecDepth 100000 in
set_option maxHeartbeats 4000000 in
theorem ct_Qu_isGrouped {h : qH} (gr : Option Nat) (hgr4 : ∀ g, gr = some g → g < 4) (hgr : h.1 3 13 = grI gr) : qT mi_Qu_isGrouped 0 0 0 [.ref 3] h NN (fun v1 h1 n1 => v1 = some (.int (b2i gr.isSome)) ∧ h = h1 ∧ n1 = NN) := by
  refine qT.of (lv0 := [_]) (by decide +kernel) (fun _ _ => Nat.le_of_ble_eq_true rfl) rfl ?_
  refine qx_aload_n d_Qu_isGrouped_0 rfl rfl ?_
  refine qx_getI d_Qu_isGrouped_1 fI_Qu_29 rfl rfl hgr ?_
  refine qx_iconst (v := (-1)) d_Qu_isGrouped_4 rfl ?_
  refine qx_icmp_eq (t := 12) d_Qu_isGrouped_5 rfl (fun c5 => ?_) (fun c5 => ?_)
  · refine qx_iconstN (v := 0) d_Qu_isGrouped_12 rfl ?_
    exact qx_iret d_Qu_isGrouped_13 rfl rfl (by omega) (by omega) (by refine ⟨?_, rfl, rfl⟩; first | (rw [(grI_m1 hgr4).mp c5]; rfl) | (cases gr with | none => exact absurd rfl c5 | some g => rfl))
  · refine qx_iconstN (v := 1) d_Qu_isGrouped_8 rfl ?_
    refine qx_goto (t := 13) d_Qu_isGrouped_9 rfl ?_
    exact qx_iret d_Qu_isGrouped_13 rfl rfl (by omega) (by omega) (by refine ⟨?_, rfl, rfl⟩; first | (rw [(grI_m1 hgr4).mp c5]; rfl) | (cases gr with | none => exact absurd rfl c5 | some g => rfl))
set_option maxRecDepth 100000 in
set_option maxHeartbeats 4000000 in
theorem ct_QF_canChangeQuery {h : qH} (hQ : h.2.2 0 = qRQF) (bg on : Bool) (hbeg : h.1 3 0 = b2i bg) (hon : h.1 83 0 = b2i on) : qT mi_QF_canChangeQuery 0 0 0 [.ref 0] h NN (fun v1 h1 n1 => v1 = some (.int (b2i (bg && !on))) ∧ h = h1 ∧ n1 = NN) := by
  refine qT.of (lv0 := [_]) (by decide +kernel) (fun _ _ => Nat.le_of_ble_eq_true rfl) rfl ?_
  refine qx_aload_n d_QF_canChangeQuery_0 rfl rfl ?_
  refine qx_getR d_QF_canChangeQuery_1 fR_QF_36 rfl rfl (congrFun hQ 4) ?_
  refine qx_getI d_QF_canChangeQuery_4 fI_QF_40 rfl rfl hon ?_
  refine qx_if_neB (t := 24) d_QF_canChangeQuery_7 rfl (fun c7 => ?_) (fun c7 => ?_)
  · refine qx_iconstN (v := 0) d_QF_canChangeQuery_24 rfl ?_
    exact qx_iret d_QF_canChangeQuery_25 rfl rfl (by omega) (by omega) (by refine ⟨?_, rfl, rfl⟩; first | (rw [c7, c17]; rfl) | (rw [c7]; cases bg <;> rfl))
  · refine qx_aload_n d_QF_canChangeQuery_10 rfl rfl ?_
    refine qx_getR d_QF_canChangeQuery_11 fR_QF_25 rfl rfl (congrFun hQ 2) ?_
    refine qx_getI d_QF_canChangeQuery_14 fI_QF_206 rfl rfl hbeg ?_
    refine qx_if_eqB (t := 24) d_QF_canChangeQuery_17 rfl (fun c17 => ?_) (fun c17 => ?_)
    · refine qx_iconstN (v := 0) d_QF_canChangeQuery_24 rfl ?_
      exact qx_iret d_QF_canChangeQuery_25 rfl rfl (by omega) (by omega) (by refine ⟨?_, rfl, rfl⟩; first | (rw [c7, c17]; rfl) | (rw [c7]; cases bg <;> rfl))
    · refine qx_iconstN (v := 1) d_QF_canChangeQuery_20 rfl ?_
      refine qx_goto (t := 25) d_QF_canChangeQuery_21 rfl ?_
      exact qx_iret d_QF_canChangeQuery_25 rfl rfl (by omega) (by omega) (by refine ⟨?_, rfl, rfl⟩; first | (rw [c7, c17]; rfl) | (rw [c7]; cases bg <;> rfl))
set_option maxRecDepth 100000 in
set_option maxHeartbeats 4000000 in
theorem ct_QF_isWorker {h : qH} (hQ : h.2.2 0 = qRQF) (on : Bool) (hon : h.1 83 0 = b2i on) (x w : Int32) (hw : h.1 83 1 = w) : qT mi_QF_isWorker 1 0 0 [.ref 0, .int x] h NN (fun v1 h1 n1 => v1 = some (.int (b2i (on && decide (0 ≤ x ∧ x < w)))) ∧ h = h1 ∧ n1 = NN) := by
  refine qT.of (lv0 := [_, _]) (by decide +kernel) (fun _ _ => Nat.le_of_ble_eq_true rfl) rfl ?_
  refine qx_aload_n d_QF_isWorker_0 rfl rfl ?_
  refine qx_getR d_QF_isWorker_1 fR_QF_36 rfl rfl (congrFun hQ 4) ?_
  refine qx_getI d_QF_isWorker_4 fI_QF_40 rfl rfl hon ?_
  refine qx_if_eqB (t := 28) d_QF_isWorker_7 rfl (fun c7 => ?_) (fun c7 => ?_)
  · refine qx_iconstN (v := 0) d_QF_isWorker_28 rfl ?_
    exact qx_iret d_QF_isWorker_29 rfl rfl (by omega) (by omega) (by refine ⟨?_, rfl, rfl⟩; first | (rw [c7, c21]; rfl) | (rw [c7]; rfl))
  · refine qx_iload_n d_QF_isWorker_10 rfl rfl ?_
    refine qx_aload_n d_QF_isWorker_11 rfl rfl ?_
    refine qx_getR d_QF_isWorker_12 fR_QF_36 rfl rfl (congrFun hQ 4) ?_
    refine qx_getI d_QF_isWorker_15 fI_QF_209 rfl rfl hw ?_
    refine qx_callS (As := [_, _]) (rest := _) d_QF_isWorker_18 lk_QF_44 y_QF_isIn s_QF_isIn rfl rfl rfl rfl (by decide) (by decide) (ct_QF_isIn _ _) ?_
    rintro _ _ _ ⟨rfl, rfl, rfl⟩
    refine qx_if_eqB (t := 28) d_QF_isWorker_21 rfl (fun c21 => ?_) (fun c21 => ?_)
    · refine qx_iconstN (v := 0) d_QF_isWorker_28 rfl ?_
      exact qx_iret d_QF_isWorker_29 rfl rfl (by omega) (by omega) (by refine ⟨?_, rfl, rfl⟩; first | (rw [c7, c21]; rfl) | (rw [c7]; rfl))
    · refine qx_iconstN (v := 1) d_QF_isWorker_24 rfl ?_
      refine qx_goto (t := 29) d_QF_isWorker_25 rfl ?_
      exact qx_iret d_QF_isWorker_29 rfl rfl (by omega) (by omega) (by refine ⟨?_, rfl, rfl⟩; first | (rw [c7, c21]; rfl) | (rw [c7]; rfl))
set_option maxRecDepth 100000 in
set_option maxHeartbeats 4000000 in
theorem ct_QF_hasResult {h : qH} (hQ : h.2.2 0 = qRQF) (on : Bool) (hon : h.1 83 0 = b2i on) (nt : Nat) (hnt16 : nt ≤ 16) (hnt : h.1 83 3 = nI nt) : qT mi_QF_hasResult 0 0 0 [.ref 0] h NN (fun v1 h1 n1 => v1 = some (.int (b2i (!on && decide (0 < nt)))) ∧ h = h1 ∧ n1 = NN) := by
  refine qT.of (lv0 := [_]) (by decide +kernel) (fun _ _ => Nat.le_of_ble_eq_true rfl) rfl ?_
  refine qx_aload_n d_QF_hasResult_0 rfl rfl ?_
  refine qx_getR d_QF_hasResult_1 fR_QF_36 rfl rfl (congrFun hQ 4) ?_
  refine qx_getI d_QF_hasResult_4 fI_QF_40 rfl rfl hon ?_
  refine qx_if_neB (t := 24) d_QF_hasResult_7 rfl (fun c7 => ?_) (fun c7 => ?_)
  · refine qx_iconstN (v := 0) d_QF_hasResult_24 rfl ?_
    exact qx_iret d_QF_hasResult_25 rfl rfl (by omega) (by omega) (by refine ⟨?_, rfl, rfl⟩; first | (rw [c7, decide_eq_true (show 0 < nt by omega)]; rfl) | (rw [c7, decide_eq_false (show ¬ 0 < nt by omega)]; rfl) | (rw [c7]; rfl))
  · refine qx_aload_n d_QF_hasResult_10 rfl rfl ?_
    refine qx_getR d_QF_hasResult_11 fR_QF_36 rfl rfl (congrFun hQ 4) ?_
    refine qx_getI d_QF_hasResult_14 fI_QF_134 rfl rfl hnt ?_
    refine qx_if_leN (t := 24) d_QF_hasResult_17 rfl (by omega) (fun c17 => ?_) (fun c17 => ?_)
    · refine qx_iconstN (v := 0) d_QF_hasResult_24 rfl ?_
      exact qx_iret d_QF_hasResult_25 rfl rfl (by omega) (by omega) (by refine ⟨?_, rfl, rfl⟩; first | (rw [c7, decide_eq_true (show 0 < nt by omega)]; rfl) | (rw [c7, decide_eq_false (show ¬ 0 < nt by omega)]; rfl) | (rw [c7]; rfl))
    · refine qx_iconstN (v := 1) d_QF_hasResult_20 rfl ?_
      refine qx_goto (t := 25) d_QF_hasResult_21 rfl ?_
      exact qx_iret d_QF_hasResult_25 rfl rfl (by omega) (by omega) (by refine ⟨?_, rfl, rfl⟩; first | (rw [c7, decide_eq_true (show 0 < nt by omega)]; rfl) | (rw [c7, decide_eq_false (show ¬ 0 < nt by omega)]; rfl) | (rw [c7]; rfl))
