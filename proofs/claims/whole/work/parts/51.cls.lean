theorem fmI_x {a w : Nat} (ha : a < 2 ^ 31) (hw : w < 2 ^ 31) : ¬ (nI a ^^^ nI w) < 0 := by
  intro e
  have h1 := (xr_I (by rw [nn_toInt hw]; omega)).mp (Int32.lt_iff_toInt_lt.mp e)
  rw [nn_toInt ha] at h1
  omega
set_option maxRecDepth 100000 in
set_option maxHeartbeats 4000000 in
theorem ct_QF_isIn {h : qH} {n : Nat} (x y : Int32) : qT mi_QF_isIn 0 0 0 [.int x, .int y] h n (fun v1 h1 n1 => v1 = some (.int (b2i (decide (0 ≤ x ∧ x < y)))) ∧ h = h1 ∧ n1 = n) := by
  refine qT.of (lv0 := [_, _]) (by decide +kernel) (fun _ _ => Nat.le_of_ble_eq_true rfl) rfl ?_
  refine qx_iload_n d_QF_isIn_0 rfl rfl ?_
  refine qx_if_lt (t := 13) d_QF_isIn_1 rfl (fun c1 => ?_) (fun c1 => ?_)
  · refine qx_iconstN (v := 0) d_QF_isIn_13 rfl ?_
    exact qx_iret d_QF_isIn_14 rfl rfl (by omega) (by omega) (by refine ⟨?_, rfl, rfl⟩; first | (have z := c6; first | (rw [decide_eq_true ⟨Int32.not_lt.mp c1, Int32.not_le.mp c6⟩]; rfl) | (rw [decide_eq_false (fun q => absurd q.2 (Int32.not_lt.mpr c6))]; rfl)) | (rw [decide_eq_false (fun q => absurd q.1 (Int32.not_le.mpr c1))]; rfl))
  · refine qx_iload_n d_QF_isIn_4 rfl rfl ?_
    refine qx_iload_n d_QF_isIn_5 rfl rfl ?_
    refine qx_icmp_ge (t := 13) d_QF_isIn_6 rfl (fun c6 => ?_) (fun c6 => ?_)
    · refine qx_iconstN (v := 0) d_QF_isIn_13 rfl ?_
      exact qx_iret d_QF_isIn_14 rfl rfl (by omega) (by omega) (by refine ⟨?_, rfl, rfl⟩; first | (have z := c6; first | (rw [decide_eq_true ⟨Int32.not_lt.mp c1, Int32.not_le.mp c6⟩]; rfl) | (rw [decide_eq_false (fun q => absurd q.2 (Int32.not_lt.mpr c6))]; rfl)) | (rw [decide_eq_false (fun q => absurd q.1 (Int32.not_le.mpr c1))]; rfl))
    · refine qx_iconstN (v := 1) d_QF_isIn_9 rfl ?_
      refine qx_goto (t := 14) d_QF_isIn_10 rfl ?_
      exact qx_iret d_QF_isIn_14 rfl rfl (by omega) (by omega) (by refine ⟨?_, rfl, rfl⟩; first | (have z := c6; first | (rw [decide_eq_true ⟨Int32.not_lt.mp c1, Int32.not_le.mp c6⟩]; rfl) | (rw [decide_eq_false (fun q => absurd q.2 (Int32.not_lt.mpr c6))]; rfl)) | (rw [decide_eq_false (fun q => absurd q.1 (Int32.not_le.mpr c1))]; rfl))
